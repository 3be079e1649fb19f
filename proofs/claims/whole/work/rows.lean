section
-- ===== PART A: goes FIRST, ahead of the names: the tables' words, and 'selects' of the private methods out of them =====
/-- a private method of a class that the tables say can be made, by its rows of tables_1 -/
def lw_okq (q : MethodName × Nat) : Prop := (q.1.cls ≠ "java/lang/invoke/MethodHandle" ∧ q.1.cls ≠ "java/lang/invoke/VarHandle") ∧ Cond.instantiable q.1.cls q.2 ∈ tables_1 ∧ Cond.privateMethod q.1 ∈ tables_1 ∧ Cond.instanceMethod q.1 ∈ tables_1
theorem lw_p0 : lw_okq (⟨"AlmsHouse", "refuse", "(I)I"⟩, 17) := ⟨⟨by decide +kernel, by decide +kernel⟩, List.mem_of_getElem? (i := 32) (by decide +kernel), List.mem_of_getElem? (i := 272) (by decide +kernel), List.mem_of_getElem? (i := 273) (by decide +kernel)⟩
theorem lw_p1 : lw_okq (⟨"AlmsHouse", "accept", "(I)I"⟩, 17) := ⟨⟨by decide +kernel, by decide +kernel⟩, List.mem_of_getElem? (i := 32) (by decide +kernel), List.mem_of_getElem? (i := 276) (by decide +kernel), List.mem_of_getElem? (i := 277) (by decide +kernel)⟩
theorem lw_p2 : lw_okq (⟨"AlmsHouse", "isWill", "(I)Z"⟩, 17) := ⟨⟨by decide +kernel, by decide +kernel⟩, List.mem_of_getElem? (i := 32) (by decide +kernel), List.mem_of_getElem? (i := 292) (by decide +kernel), List.mem_of_getElem? (i := 293) (by decide +kernel)⟩
theorem lw_p3 : lw_okq (⟨"AlmsHouse$Reader", "begin", "()V"⟩, 14) := ⟨⟨by decide +kernel, by decide +kernel⟩, List.mem_of_getElem? (i := 73) (by decide +kernel), List.mem_of_getElem? (i := 304) (by decide +kernel), List.mem_of_getElem? (i := 305) (by decide +kernel)⟩
theorem lw_p4 : lw_okq (⟨"AlmsHouse$Tape", "byteAt", "(I)I"⟩, 7) := ⟨⟨by decide +kernel, by decide +kernel⟩, List.mem_of_getElem? (i := 40) (by decide +kernel), List.mem_of_getElem? (i := 320) (by decide +kernel), List.mem_of_getElem? (i := 321) (by decide +kernel)⟩
theorem lw_p5 : lw_okq (⟨"AlmsHouse$Tape", "takeNumber", "()V"⟩, 7) := ⟨⟨by decide +kernel, by decide +kernel⟩, List.mem_of_getElem? (i := 40) (by decide +kernel), List.mem_of_getElem? (i := 327) (by decide +kernel), List.mem_of_getElem? (i := 328) (by decide +kernel)⟩
theorem lw_p6 : lw_okq (⟨"AlmsHouse$Tape", "takeWord", "()V"⟩, 7) := ⟨⟨by decide +kernel, by decide +kernel⟩, List.mem_of_getElem? (i := 40) (by decide +kernel), List.mem_of_getElem? (i := 334) (by decide +kernel), List.mem_of_getElem? (i := 335) (by decide +kernel)⟩
theorem lw_p7 : lw_okq (⟨"AlmsHouse$Tape", "keywordKind", "()I"⟩, 7) := ⟨⟨by decide +kernel, by decide +kernel⟩, List.mem_of_getElem? (i := 40) (by decide +kernel), List.mem_of_getElem? (i := 338) (by decide +kernel), List.mem_of_getElem? (i := 339) (by decide +kernel)⟩
theorem lw_p8 : lw_okq (⟨"AlmsHouse$Tape", "spells", "(Ljava/lang/String;)Z"⟩, 7) := ⟨⟨by decide +kernel, by decide +kernel⟩, List.mem_of_getElem? (i := 40) (by decide +kernel), List.mem_of_getElem? (i := 343) (by decide +kernel), List.mem_of_getElem? (i := 344) (by decide +kernel)⟩
theorem lw_p9 : lw_okq (⟨"AlmsHouse$Tape", "nameNumber", "()I"⟩, 7) := ⟨⟨by decide +kernel, by decide +kernel⟩, List.mem_of_getElem? (i := 40) (by decide +kernel), List.mem_of_getElem? (i := 400) (by decide +kernel), List.mem_of_getElem? (i := 401) (by decide +kernel)⟩
theorem lw_p10 : lw_okq (⟨"AlmsHouse$Reader", "step", "(I)I"⟩, 14) := ⟨⟨by decide +kernel, by decide +kernel⟩, List.mem_of_getElem? (i := 73) (by decide +kernel), List.mem_of_getElem? (i := 412) (by decide +kernel), List.mem_of_getElem? (i := 413) (by decide +kernel)⟩
theorem lw_p11 : lw_okq (⟨"AlmsHouse$Reader", "readChange", "()I"⟩, 14) := ⟨⟨by decide +kernel, by decide +kernel⟩, List.mem_of_getElem? (i := 73) (by decide +kernel), List.mem_of_getElem? (i := 416) (by decide +kernel), List.mem_of_getElem? (i := 417) (by decide +kernel)⟩
theorem lw_p12 : lw_okq (⟨"AlmsHouse$Reader", "faulty", "(I)I"⟩, 14) := ⟨⟨by decide +kernel, by decide +kernel⟩, List.mem_of_getElem? (i := 73) (by decide +kernel), List.mem_of_getElem? (i := 420) (by decide +kernel), List.mem_of_getElem? (i := 421) (by decide +kernel)⟩
theorem lw_p13 : lw_okq (⟨"AlmsHouse$Reader", "readClauseNumber", "(I)I"⟩, 14) := ⟨⟨by decide +kernel, by decide +kernel⟩, List.mem_of_getElem? (i := 73) (by decide +kernel), List.mem_of_getElem? (i := 424) (by decide +kernel), List.mem_of_getElem? (i := 425) (by decide +kernel)⟩
theorem lw_p14 : lw_okq (⟨"AlmsHouse$Reader", "readBehindChange", "()I"⟩, 14) := ⟨⟨by decide +kernel, by decide +kernel⟩, List.mem_of_getElem? (i := 73) (by decide +kernel), List.mem_of_getElem? (i := 428) (by decide +kernel), List.mem_of_getElem? (i := 429) (by decide +kernel)⟩
theorem lw_p15 : lw_okq (⟨"AlmsHouse$Reader", "readOne", "()I"⟩, 14) := ⟨⟨by decide +kernel, by decide +kernel⟩, List.mem_of_getElem? (i := 73) (by decide +kernel), List.mem_of_getElem? (i := 432) (by decide +kernel), List.mem_of_getElem? (i := 433) (by decide +kernel)⟩
def lw_privs_1 : List (MethodName × Nat) := [(⟨"AlmsHouse", "refuse", "(I)I"⟩, 17), (⟨"AlmsHouse", "accept", "(I)I"⟩, 17), (⟨"AlmsHouse", "isWill", "(I)Z"⟩, 17), (⟨"AlmsHouse$Reader", "begin", "()V"⟩, 14), (⟨"AlmsHouse$Tape", "byteAt", "(I)I"⟩, 7), (⟨"AlmsHouse$Tape", "takeNumber", "()V"⟩, 7), (⟨"AlmsHouse$Tape", "takeWord", "()V"⟩, 7), (⟨"AlmsHouse$Tape", "keywordKind", "()I"⟩, 7), (⟨"AlmsHouse$Tape", "spells", "(Ljava/lang/String;)Z"⟩, 7), (⟨"AlmsHouse$Tape", "nameNumber", "()I"⟩, 7), (⟨"AlmsHouse$Reader", "step", "(I)I"⟩, 14), (⟨"AlmsHouse$Reader", "readChange", "()I"⟩, 14), (⟨"AlmsHouse$Reader", "faulty", "(I)I"⟩, 14), (⟨"AlmsHouse$Reader", "readClauseNumber", "(I)I"⟩, 14), (⟨"AlmsHouse$Reader", "readBehindChange", "()I"⟩, 14), (⟨"AlmsHouse$Reader", "readOne", "()I"⟩, 14)]
theorem lw_r1 : ∀ q ∈ lw_privs_1, lw_okq q := List.forall_mem_cons.mpr ⟨lw_p0, List.forall_mem_cons.mpr ⟨lw_p1, List.forall_mem_cons.mpr ⟨lw_p2, List.forall_mem_cons.mpr ⟨lw_p3, List.forall_mem_cons.mpr ⟨lw_p4, List.forall_mem_cons.mpr ⟨lw_p5, List.forall_mem_cons.mpr ⟨lw_p6, List.forall_mem_cons.mpr ⟨lw_p7, List.forall_mem_cons.mpr ⟨lw_p8, List.forall_mem_cons.mpr ⟨lw_p9, List.forall_mem_cons.mpr ⟨lw_p10, List.forall_mem_cons.mpr ⟨lw_p11, List.forall_mem_cons.mpr ⟨lw_p12, List.forall_mem_cons.mpr ⟨lw_p13, List.forall_mem_cons.mpr ⟨lw_p14, List.forall_mem_cons.mpr ⟨lw_p15, fun _ h => absurd h List.not_mem_nil⟩⟩⟩⟩⟩⟩⟩⟩⟩⟩⟩⟩⟩⟩⟩⟩
theorem lw_p16 : lw_okq (⟨"AlmsHouse$Reader", "noName", "()I"⟩, 14) := ⟨⟨by decide +kernel, by decide +kernel⟩, List.mem_of_getElem? (i := 73) (by decide +kernel), List.mem_of_getElem? (i := 440) (by decide +kernel), List.mem_of_getElem? (i := 441) (by decide +kernel)⟩
theorem lw_p17 : lw_okq (⟨"AlmsHouse$Reader", "readSign", "()I"⟩, 14) := ⟨⟨by decide +kernel, by decide +kernel⟩, List.mem_of_getElem? (i := 73) (by decide +kernel), List.mem_of_getElem? (i := 444) (by decide +kernel), List.mem_of_getElem? (i := 445) (by decide +kernel)⟩
theorem lw_p18 : lw_okq (⟨"AlmsHouse$Reader", "readValue", "()I"⟩, 14) := ⟨⟨by decide +kernel, by decide +kernel⟩, List.mem_of_getElem? (i := 73) (by decide +kernel), List.mem_of_getElem? (i := 448) (by decide +kernel), List.mem_of_getElem? (i := 449) (by decide +kernel)⟩
theorem lw_p19 : lw_okq (⟨"AlmsHouse$Writer", "release", "(I)V"⟩, 4) := ⟨⟨by decide +kernel, by decide +kernel⟩, List.mem_of_getElem? (i := 79) (by decide +kernel), List.mem_of_getElem? (i := 463) (by decide +kernel), List.mem_of_getElem? (i := 464) (by decide +kernel)⟩
theorem lw_p20 : lw_okq (⟨"AlmsHouse$Reader", "readBehindOne", "()I"⟩, 14) := ⟨⟨by decide +kernel, by decide +kernel⟩, List.mem_of_getElem? (i := 73) (by decide +kernel), List.mem_of_getElem? (i := 468) (by decide +kernel), List.mem_of_getElem? (i := 469) (by decide +kernel)⟩
theorem lw_p21 : lw_okq (⟨"AlmsHouse$Reader", "readTerm", "()I"⟩, 14) := ⟨⟨by decide +kernel, by decide +kernel⟩, List.mem_of_getElem? (i := 73) (by decide +kernel), List.mem_of_getElem? (i := 485) (by decide +kernel), List.mem_of_getElem? (i := 486) (by decide +kernel)⟩
theorem lw_p22 : lw_okq (⟨"AlmsHouse$Reader", "readBehindNumber", "()I"⟩, 14) := ⟨⟨by decide +kernel, by decide +kernel⟩, List.mem_of_getElem? (i := 73) (by decide +kernel), List.mem_of_getElem? (i := 489) (by decide +kernel), List.mem_of_getElem? (i := 490) (by decide +kernel)⟩
theorem lw_p23 : lw_okq (⟨"AlmsHouse$Reader", "readBehindTerm", "()I"⟩, 14) := ⟨⟨by decide +kernel, by decide +kernel⟩, List.mem_of_getElem? (i := 73) (by decide +kernel), List.mem_of_getElem? (i := 493) (by decide +kernel), List.mem_of_getElem? (i := 494) (by decide +kernel)⟩
theorem lw_p24 : lw_okq (⟨"AlmsHouse$Reader", "readFactor", "()I"⟩, 14) := ⟨⟨by decide +kernel, by decide +kernel⟩, List.mem_of_getElem? (i := 73) (by decide +kernel), List.mem_of_getElem? (i := 497) (by decide +kernel), List.mem_of_getElem? (i := 498) (by decide +kernel)⟩
theorem lw_p25 : lw_okq (⟨"AlmsHouse", "keepChanges", "(II)V"⟩, 17) := ⟨⟨by decide +kernel, by decide +kernel⟩, List.mem_of_getElem? (i := 32) (by decide +kernel), List.mem_of_getElem? (i := 501) (by decide +kernel), List.mem_of_getElem? (i := 502) (by decide +kernel)⟩
theorem lw_p26 : lw_okq (⟨"java/util/ArrayList", "add", "(Ljava/lang/Object;[Ljava/lang/Object;I)V"⟩, 3) := ⟨⟨by decide +kernel, by decide +kernel⟩, List.mem_of_getElem? (i := 144) (by decide +kernel), List.mem_of_getElem? (i := 574) (by decide +kernel), List.mem_of_getElem? (i := 575) (by decide +kernel)⟩
theorem lw_p27 : lw_okq (⟨"java/util/ArrayList", "grow", "()[Ljava/lang/Object;"⟩, 3) := ⟨⟨by decide +kernel, by decide +kernel⟩, List.mem_of_getElem? (i := 144) (by decide +kernel), List.mem_of_getElem? (i := 578) (by decide +kernel), List.mem_of_getElem? (i := 579) (by decide +kernel)⟩
theorem lw_p28 : lw_okq (⟨"java/util/ArrayList", "grow", "(I)[Ljava/lang/Object;"⟩, 3) := ⟨⟨by decide +kernel, by decide +kernel⟩, List.mem_of_getElem? (i := 144) (by decide +kernel), List.mem_of_getElem? (i := 582) (by decide +kernel), List.mem_of_getElem? (i := 583) (by decide +kernel)⟩
theorem lw_p29 : lw_okq (⟨"AlmsHouse$Standing", "consider", "(LAlmsHouse$Change;)V"⟩, 1) := ⟨⟨by decide +kernel, by decide +kernel⟩, List.mem_of_getElem? (i := 170) (by decide +kernel), List.mem_of_getElem? (i := 659) (by decide +kernel), List.mem_of_getElem? (i := 660) (by decide +kernel)⟩
theorem lw_p30 : lw_okq (⟨"AlmsHouse", "personAt", "(I)LAlmsHouse$Person;"⟩, 17) := ⟨⟨by decide +kernel, by decide +kernel⟩, List.mem_of_getElem? (i := 32) (by decide +kernel), List.mem_of_getElem? (i := 732) (by decide +kernel), List.mem_of_getElem? (i := 733) (by decide +kernel)⟩
theorem lw_p31 : lw_okq (⟨"AlmsHouse", "roomAt", "(I)LAlmsHouse$Room;"⟩, 17) := ⟨⟨by decide +kernel, by decide +kernel⟩, List.mem_of_getElem? (i := 32) (by decide +kernel), List.mem_of_getElem? (i := 746) (by decide +kernel), List.mem_of_getElem? (i := 747) (by decide +kernel)⟩
def lw_privs_2 : List (MethodName × Nat) := [(⟨"AlmsHouse$Reader", "noName", "()I"⟩, 14), (⟨"AlmsHouse$Reader", "readSign", "()I"⟩, 14), (⟨"AlmsHouse$Reader", "readValue", "()I"⟩, 14), (⟨"AlmsHouse$Writer", "release", "(I)V"⟩, 4), (⟨"AlmsHouse$Reader", "readBehindOne", "()I"⟩, 14), (⟨"AlmsHouse$Reader", "readTerm", "()I"⟩, 14), (⟨"AlmsHouse$Reader", "readBehindNumber", "()I"⟩, 14), (⟨"AlmsHouse$Reader", "readBehindTerm", "()I"⟩, 14), (⟨"AlmsHouse$Reader", "readFactor", "()I"⟩, 14), (⟨"AlmsHouse", "keepChanges", "(II)V"⟩, 17), (⟨"java/util/ArrayList", "add", "(Ljava/lang/Object;[Ljava/lang/Object;I)V"⟩, 3), (⟨"java/util/ArrayList", "grow", "()[Ljava/lang/Object;"⟩, 3), (⟨"java/util/ArrayList", "grow", "(I)[Ljava/lang/Object;"⟩, 3), (⟨"AlmsHouse$Standing", "consider", "(LAlmsHouse$Change;)V"⟩, 1), (⟨"AlmsHouse", "personAt", "(I)LAlmsHouse$Person;"⟩, 17), (⟨"AlmsHouse", "roomAt", "(I)LAlmsHouse$Room;"⟩, 17)]
theorem lw_r2 : ∀ q ∈ lw_privs_2, lw_okq q := List.forall_mem_cons.mpr ⟨lw_p16, List.forall_mem_cons.mpr ⟨lw_p17, List.forall_mem_cons.mpr ⟨lw_p18, List.forall_mem_cons.mpr ⟨lw_p19, List.forall_mem_cons.mpr ⟨lw_p20, List.forall_mem_cons.mpr ⟨lw_p21, List.forall_mem_cons.mpr ⟨lw_p22, List.forall_mem_cons.mpr ⟨lw_p23, List.forall_mem_cons.mpr ⟨lw_p24, List.forall_mem_cons.mpr ⟨lw_p25, List.forall_mem_cons.mpr ⟨lw_p26, List.forall_mem_cons.mpr ⟨lw_p27, List.forall_mem_cons.mpr ⟨lw_p28, List.forall_mem_cons.mpr ⟨lw_p29, List.forall_mem_cons.mpr ⟨lw_p30, List.forall_mem_cons.mpr ⟨lw_p31, fun _ h => absurd h List.not_mem_nil⟩⟩⟩⟩⟩⟩⟩⟩⟩⟩⟩⟩⟩⟩⟩⟩
theorem lw_p32 : lw_okq (⟨"AlmsHouse", "empty", "(LAlmsHouse$Room;)V"⟩, 17) := ⟨⟨by decide +kernel, by decide +kernel⟩, List.mem_of_getElem? (i := 32) (by decide +kernel), List.mem_of_getElem? (i := 751) (by decide +kernel), List.mem_of_getElem? (i := 752) (by decide +kernel)⟩
theorem lw_p33 : lw_okq (⟨"AlmsHouse$Person", "meansOn", "(I)I"⟩, 11) := ⟨⟨by decide +kernel, by decide +kernel⟩, List.mem_of_getElem? (i := 682) (by decide +kernel), List.mem_of_getElem? (i := 764) (by decide +kernel), List.mem_of_getElem? (i := 765) (by decide +kernel)⟩
theorem lw_p34 : lw_okq (⟨"AlmsHouse", "choose", "(II)I"⟩, 17) := ⟨⟨by decide +kernel, by decide +kernel⟩, List.mem_of_getElem? (i := 32) (by decide +kernel), List.mem_of_getElem? (i := 823) (by decide +kernel), List.mem_of_getElem? (i := 824) (by decide +kernel)⟩
theorem lw_p35 : lw_okq (⟨"AlmsHouse$Trustees", "behind", "(I)I"⟩, 3) := ⟨⟨by decide +kernel, by decide +kernel⟩, List.mem_of_getElem? (i := 182) (by decide +kernel), List.mem_of_getElem? (i := 868) (by decide +kernel), List.mem_of_getElem? (i := 869) (by decide +kernel)⟩
theorem lw_p36 : lw_okq (⟨"AlmsHouse", "bringRents", "()V"⟩, 17) := ⟨⟨by decide +kernel, by decide +kernel⟩, List.mem_of_getElem? (i := 32) (by decide +kernel), List.mem_of_getElem? (i := 941) (by decide +kernel), List.mem_of_getElem? (i := 942) (by decide +kernel)⟩
theorem lw_p37 : lw_okq (⟨"AlmsHouse", "payDoles", "()V"⟩, 17) := ⟨⟨by decide +kernel, by decide +kernel⟩, List.mem_of_getElem? (i := 32) (by decide +kernel), List.mem_of_getElem? (i := 955) (by decide +kernel), List.mem_of_getElem? (i := 956) (by decide +kernel)⟩
theorem lw_p38 : lw_okq (⟨"AlmsHouse", "emptyRooms", "()I"⟩, 17) := ⟨⟨by decide +kernel, by decide +kernel⟩, List.mem_of_getElem? (i := 32) (by decide +kernel), List.mem_of_getElem? (i := 975) (by decide +kernel), List.mem_of_getElem? (i := 976) (by decide +kernel)⟩
theorem lw_p39 : lw_okq (⟨"java/lang/Throwable", "fillInStackTrace", "(I)Ljava/lang/Throwable;"⟩, 6) := ⟨⟨by decide +kernel, by decide +kernel⟩, List.mem_of_getElem? (i := 1090) (by decide +kernel), List.mem_of_getElem? (i := 1088) (by decide +kernel), List.mem_of_getElem? (i := 1089) (by decide +kernel)⟩
theorem lw_p40 : lw_okq (⟨"AlmsHouseModel", "refused", "(I)I"⟩, 55) := ⟨⟨by decide +kernel, by decide +kernel⟩, List.mem_of_getElem? (i := 987) (by decide +kernel), List.mem_of_getElem? (i := 1294) (by decide +kernel), List.mem_of_getElem? (i := 1295) (by decide +kernel)⟩
theorem lw_p41 : lw_okq (⟨"AlmsHouseModel", "done", "(I)I"⟩, 55) := ⟨⟨by decide +kernel, by decide +kernel⟩, List.mem_of_getElem? (i := 987) (by decide +kernel), List.mem_of_getElem? (i := 1298) (by decide +kernel), List.mem_of_getElem? (i := 1299) (by decide +kernel)⟩
theorem lw_p42 : lw_okq (⟨"AlmsHouseModel", "isWill", "(I)Z"⟩, 55) := ⟨⟨by decide +kernel, by decide +kernel⟩, List.mem_of_getElem? (i := 987) (by decide +kernel), List.mem_of_getElem? (i := 1310) (by decide +kernel), List.mem_of_getElem? (i := 1311) (by decide +kernel)⟩
theorem lw_p43 : lw_okq (⟨"AlmsHouseModel", "reads", "(LAlmsHouseModel$Scheme;)V"⟩, 55) := ⟨⟨by decide +kernel, by decide +kernel⟩, List.mem_of_getElem? (i := 987) (by decide +kernel), List.mem_of_getElem? (i := 1321) (by decide +kernel), List.mem_of_getElem? (i := 1322) (by decide +kernel)⟩
theorem lw_p44 : lw_okq (⟨"AlmsHouseModel", "next", "()V"⟩, 55) := ⟨⟨by decide +kernel, by decide +kernel⟩, List.mem_of_getElem? (i := 987) (by decide +kernel), List.mem_of_getElem? (i := 1325) (by decide +kernel), List.mem_of_getElem? (i := 1326) (by decide +kernel)⟩
theorem lw_p45 : lw_okq (⟨"AlmsHouseModel", "byteAt", "(I)I"⟩, 55) := ⟨⟨by decide +kernel, by decide +kernel⟩, List.mem_of_getElem? (i := 987) (by decide +kernel), List.mem_of_getElem? (i := 1329) (by decide +kernel), List.mem_of_getElem? (i := 1330) (by decide +kernel)⟩
theorem lw_p46 : lw_okq (⟨"AlmsHouseModel", "isWord", "(Ljava/lang/String;)Z"⟩, 55) := ⟨⟨by decide +kernel, by decide +kernel⟩, List.mem_of_getElem? (i := 987) (by decide +kernel), List.mem_of_getElem? (i := 1341) (by decide +kernel), List.mem_of_getElem? (i := 1342) (by decide +kernel)⟩
theorem lw_p47 : lw_okq (⟨"AlmsHouseModel", "stop", "(I)LAlmsHouseModel$Stop;"⟩, 55) := ⟨⟨by decide +kernel, by decide +kernel⟩, List.mem_of_getElem? (i := 987) (by decide +kernel), List.mem_of_getElem? (i := 1352) (by decide +kernel), List.mem_of_getElem? (i := 1353) (by decide +kernel)⟩
def lw_privs_3 : List (MethodName × Nat) := [(⟨"AlmsHouse", "empty", "(LAlmsHouse$Room;)V"⟩, 17), (⟨"AlmsHouse$Person", "meansOn", "(I)I"⟩, 11), (⟨"AlmsHouse", "choose", "(II)I"⟩, 17), (⟨"AlmsHouse$Trustees", "behind", "(I)I"⟩, 3), (⟨"AlmsHouse", "bringRents", "()V"⟩, 17), (⟨"AlmsHouse", "payDoles", "()V"⟩, 17), (⟨"AlmsHouse", "emptyRooms", "()I"⟩, 17), (⟨"java/lang/Throwable", "fillInStackTrace", "(I)Ljava/lang/Throwable;"⟩, 6), (⟨"AlmsHouseModel", "refused", "(I)I"⟩, 55), (⟨"AlmsHouseModel", "done", "(I)I"⟩, 55), (⟨"AlmsHouseModel", "isWill", "(I)Z"⟩, 55), (⟨"AlmsHouseModel", "reads", "(LAlmsHouseModel$Scheme;)V"⟩, 55), (⟨"AlmsHouseModel", "next", "()V"⟩, 55), (⟨"AlmsHouseModel", "byteAt", "(I)I"⟩, 55), (⟨"AlmsHouseModel", "isWord", "(Ljava/lang/String;)Z"⟩, 55), (⟨"AlmsHouseModel", "stop", "(I)LAlmsHouseModel$Stop;"⟩, 55)]
theorem lw_r3 : ∀ q ∈ lw_privs_3, lw_okq q := List.forall_mem_cons.mpr ⟨lw_p32, List.forall_mem_cons.mpr ⟨lw_p33, List.forall_mem_cons.mpr ⟨lw_p34, List.forall_mem_cons.mpr ⟨lw_p35, List.forall_mem_cons.mpr ⟨lw_p36, List.forall_mem_cons.mpr ⟨lw_p37, List.forall_mem_cons.mpr ⟨lw_p38, List.forall_mem_cons.mpr ⟨lw_p39, List.forall_mem_cons.mpr ⟨lw_p40, List.forall_mem_cons.mpr ⟨lw_p41, List.forall_mem_cons.mpr ⟨lw_p42, List.forall_mem_cons.mpr ⟨lw_p43, List.forall_mem_cons.mpr ⟨lw_p44, List.forall_mem_cons.mpr ⟨lw_p45, List.forall_mem_cons.mpr ⟨lw_p46, List.forall_mem_cons.mpr ⟨lw_p47, fun _ h => absurd h List.not_mem_nil⟩⟩⟩⟩⟩⟩⟩⟩⟩⟩⟩⟩⟩⟩⟩⟩
theorem lw_p48 : lw_okq (⟨"AlmsHouseModel", "readAny", "(LAlmsHouseModel$Scheme;)V"⟩, 55) := ⟨⟨by decide +kernel, by decide +kernel⟩, List.mem_of_getElem? (i := 987) (by decide +kernel), List.mem_of_getElem? (i := 1356) (by decide +kernel), List.mem_of_getElem? (i := 1357) (by decide +kernel)⟩
theorem lw_p49 : lw_okq (⟨"AlmsHouseModel", "readAll", "(LAlmsHouseModel$Scheme;)V"⟩, 55) := ⟨⟨by decide +kernel, by decide +kernel⟩, List.mem_of_getElem? (i := 987) (by decide +kernel), List.mem_of_getElem? (i := 1360) (by decide +kernel), List.mem_of_getElem? (i := 1361) (by decide +kernel)⟩
theorem lw_p50 : lw_okq (⟨"AlmsHouseModel", "readOne", "(LAlmsHouseModel$Scheme;)V"⟩, 55) := ⟨⟨by decide +kernel, by decide +kernel⟩, List.mem_of_getElem? (i := 987) (by decide +kernel), List.mem_of_getElem? (i := 1364) (by decide +kernel), List.mem_of_getElem? (i := 1365) (by decide +kernel)⟩
theorem lw_p51 : lw_okq (⟨"AlmsHouseModel", "is", "(I)Z"⟩, 55) := ⟨⟨by decide +kernel, by decide +kernel⟩, List.mem_of_getElem? (i := 987) (by decide +kernel), List.mem_of_getElem? (i := 1369) (by decide +kernel), List.mem_of_getElem? (i := 1370) (by decide +kernel)⟩
theorem lw_p52 : lw_okq (⟨"AlmsHouseModel", "nameHere", "()I"⟩, 55) := ⟨⟨by decide +kernel, by decide +kernel⟩, List.mem_of_getElem? (i := 987) (by decide +kernel), List.mem_of_getElem? (i := 1373) (by decide +kernel), List.mem_of_getElem? (i := 1374) (by decide +kernel)⟩
theorem lw_p53 : lw_okq (⟨"AlmsHouseModel", "readSum", "(LAlmsHouseModel$Scheme;I)V"⟩, 55) := ⟨⟨by decide +kernel, by decide +kernel⟩, List.mem_of_getElem? (i := 987) (by decide +kernel), List.mem_of_getElem? (i := 1388) (by decide +kernel), List.mem_of_getElem? (i := 1389) (by decide +kernel)⟩
theorem lw_p54 : lw_okq (⟨"AlmsHouseModel", "finds", "(III)Z"⟩, 55) := ⟨⟨by decide +kernel, by decide +kernel⟩, List.mem_of_getElem? (i := 987) (by decide +kernel), List.mem_of_getElem? (i := 1404) (by decide +kernel), List.mem_of_getElem? (i := 1405) (by decide +kernel)⟩
theorem lw_p55 : lw_okq (⟨"AlmsHouseModel", "clausesOf", "(II)I"⟩, 55) := ⟨⟨by decide +kernel, by decide +kernel⟩, List.mem_of_getElem? (i := 987) (by decide +kernel), List.mem_of_getElem? (i := 1412) (by decide +kernel), List.mem_of_getElem? (i := 1413) (by decide +kernel)⟩
theorem lw_p56 : lw_okq (⟨"AlmsHouseModel", "isPerson", "(I)Z"⟩, 55) := ⟨⟨by decide +kernel, by decide +kernel⟩, List.mem_of_getElem? (i := 987) (by decide +kernel), List.mem_of_getElem? (i := 1425) (by decide +kernel), List.mem_of_getElem? (i := 1426) (by decide +kernel)⟩
theorem lw_p57 : lw_okq (⟨"AlmsHouseModel", "factOf", "(III)I"⟩, 55) := ⟨⟨by decide +kernel, by decide +kernel⟩, List.mem_of_getElem? (i := 987) (by decide +kernel), List.mem_of_getElem? (i := 1433) (by decide +kernel), List.mem_of_getElem? (i := 1434) (by decide +kernel)⟩
theorem lw_p58 : lw_okq (⟨"AlmsHouseModel", "isAsked", "(III)Z"⟩, 55) := ⟨⟨by decide +kernel, by decide +kernel⟩, List.mem_of_getElem? (i := 987) (by decide +kernel), List.mem_of_getElem? (i := 1442) (by decide +kernel), List.mem_of_getElem? (i := 1443) (by decide +kernel)⟩
theorem lw_p59 : lw_okq (⟨"AlmsHouseModel", "mayCome", "(III)Z"⟩, 55) := ⟨⟨by decide +kernel, by decide +kernel⟩, List.mem_of_getElem? (i := 987) (by decide +kernel), List.mem_of_getElem? (i := 1446) (by decide +kernel), List.mem_of_getElem? (i := 1447) (by decide +kernel)⟩
theorem lw_p60 : lw_okq (⟨"AlmsHouseModel", "barsOf", "(III)I"⟩, 55) := ⟨⟨by decide +kernel, by decide +kernel⟩, List.mem_of_getElem? (i := 987) (by decide +kernel), List.mem_of_getElem? (i := 1450) (by decide +kernel), List.mem_of_getElem? (i := 1451) (by decide +kernel)⟩
theorem lw_p61 : lw_okq (⟨"AlmsHouseModel", "holds", "(II)Z"⟩, 55) := ⟨⟨by decide +kernel, by decide +kernel⟩, List.mem_of_getElem? (i := 987) (by decide +kernel), List.mem_of_getElem? (i := 1454) (by decide +kernel), List.mem_of_getElem? (i := 1455) (by decide +kernel)⟩
theorem lw_p62 : lw_okq (⟨"AlmsHouseModel", "orderOf", "(III)I"⟩, 55) := ⟨⟨by decide +kernel, by decide +kernel⟩, List.mem_of_getElem? (i := 987) (by decide +kernel), List.mem_of_getElem? (i := 1466) (by decide +kernel), List.mem_of_getElem? (i := 1467) (by decide +kernel)⟩
theorem lw_p63 : lw_okq (⟨"AlmsHouseModel", "nextOf", "(II)I"⟩, 55) := ⟨⟨by decide +kernel, by decide +kernel⟩, List.mem_of_getElem? (i := 987) (by decide +kernel), List.mem_of_getElem? (i := 1478) (by decide +kernel), List.mem_of_getElem? (i := 1479) (by decide +kernel)⟩
def lw_privs_4 : List (MethodName × Nat) := [(⟨"AlmsHouseModel", "readAny", "(LAlmsHouseModel$Scheme;)V"⟩, 55), (⟨"AlmsHouseModel", "readAll", "(LAlmsHouseModel$Scheme;)V"⟩, 55), (⟨"AlmsHouseModel", "readOne", "(LAlmsHouseModel$Scheme;)V"⟩, 55), (⟨"AlmsHouseModel", "is", "(I)Z"⟩, 55), (⟨"AlmsHouseModel", "nameHere", "()I"⟩, 55), (⟨"AlmsHouseModel", "readSum", "(LAlmsHouseModel$Scheme;I)V"⟩, 55), (⟨"AlmsHouseModel", "finds", "(III)Z"⟩, 55), (⟨"AlmsHouseModel", "clausesOf", "(II)I"⟩, 55), (⟨"AlmsHouseModel", "isPerson", "(I)Z"⟩, 55), (⟨"AlmsHouseModel", "factOf", "(III)I"⟩, 55), (⟨"AlmsHouseModel", "isAsked", "(III)Z"⟩, 55), (⟨"AlmsHouseModel", "mayCome", "(III)Z"⟩, 55), (⟨"AlmsHouseModel", "barsOf", "(III)I"⟩, 55), (⟨"AlmsHouseModel", "holds", "(II)Z"⟩, 55), (⟨"AlmsHouseModel", "orderOf", "(III)I"⟩, 55), (⟨"AlmsHouseModel", "nextOf", "(II)I"⟩, 55)]
theorem lw_r4 : ∀ q ∈ lw_privs_4, lw_okq q := List.forall_mem_cons.mpr ⟨lw_p48, List.forall_mem_cons.mpr ⟨lw_p49, List.forall_mem_cons.mpr ⟨lw_p50, List.forall_mem_cons.mpr ⟨lw_p51, List.forall_mem_cons.mpr ⟨lw_p52, List.forall_mem_cons.mpr ⟨lw_p53, List.forall_mem_cons.mpr ⟨lw_p54, List.forall_mem_cons.mpr ⟨lw_p55, List.forall_mem_cons.mpr ⟨lw_p56, List.forall_mem_cons.mpr ⟨lw_p57, List.forall_mem_cons.mpr ⟨lw_p58, List.forall_mem_cons.mpr ⟨lw_p59, List.forall_mem_cons.mpr ⟨lw_p60, List.forall_mem_cons.mpr ⟨lw_p61, List.forall_mem_cons.mpr ⟨lw_p62, List.forall_mem_cons.mpr ⟨lw_p63, fun _ h => absurd h List.not_mem_nil⟩⟩⟩⟩⟩⟩⟩⟩⟩⟩⟩⟩⟩⟩⟩⟩
theorem lw_p64 : lw_okq (⟨"AlmsHouseModel", "denied", "(I)Z"⟩, 55) := ⟨⟨by decide +kernel, by decide +kernel⟩, List.mem_of_getElem? (i := 987) (by decide +kernel), List.mem_of_getElem? (i := 1494) (by decide +kernel), List.mem_of_getElem? (i := 1495) (by decide +kernel)⟩
theorem lw_p65 : lw_okq (⟨"AlmsHouseModel", "granted", "()Z"⟩, 55) := ⟨⟨by decide +kernel, by decide +kernel⟩, List.mem_of_getElem? (i := 987) (by decide +kernel), List.mem_of_getElem? (i := 1498) (by decide +kernel), List.mem_of_getElem? (i := 1499) (by decide +kernel)⟩
theorem lw_p66 : lw_okq (⟨"AlmsHouseModel", "isRoom", "(I)Z"⟩, 55) := ⟨⟨by decide +kernel, by decide +kernel⟩, List.mem_of_getElem? (i := 987) (by decide +kernel), List.mem_of_getElem? (i := 1506) (by decide +kernel), List.mem_of_getElem? (i := 1507) (by decide +kernel)⟩
theorem lw_p67 : lw_okq (⟨"AlmsHouseModel", "ends", "(I)I"⟩, 55) := ⟨⟨by decide +kernel, by decide +kernel⟩, List.mem_of_getElem? (i := 987) (by decide +kernel), List.mem_of_getElem? (i := 1514) (by decide +kernel), List.mem_of_getElem? (i := 1515) (by decide +kernel)⟩
theorem lw_p68 : lw_okq (⟨"AlmsHouseModel", "day", "()V"⟩, 55) := ⟨⟨by decide +kernel, by decide +kernel⟩, List.mem_of_getElem? (i := 987) (by decide +kernel), List.mem_of_getElem? (i := 1542) (by decide +kernel), List.mem_of_getElem? (i := 1543) (by decide +kernel)⟩
def lw_privs_5 : List (MethodName × Nat) := [(⟨"AlmsHouseModel", "denied", "(I)Z"⟩, 55), (⟨"AlmsHouseModel", "granted", "()Z"⟩, 55), (⟨"AlmsHouseModel", "isRoom", "(I)Z"⟩, 55), (⟨"AlmsHouseModel", "ends", "(I)I"⟩, 55), (⟨"AlmsHouseModel", "day", "()V"⟩, 55)]
theorem lw_r5 : ∀ q ∈ lw_privs_5, lw_okq q := List.forall_mem_cons.mpr ⟨lw_p64, List.forall_mem_cons.mpr ⟨lw_p65, List.forall_mem_cons.mpr ⟨lw_p66, List.forall_mem_cons.mpr ⟨lw_p67, List.forall_mem_cons.mpr ⟨lw_p68, fun _ h => absurd h List.not_mem_nil⟩⟩⟩⟩⟩
def lw_privs : List (MethodName × Nat) := lw_privs_1 ++ (lw_privs_2 ++ (lw_privs_3 ++ (lw_privs_4 ++ (lw_privs_5))))
def lw_tbl : List Cond := k2_sels lw_privs ++ tables_1
theorem lw_privs_ok : ∀ q ∈ lw_privs, lw_okq q := by
  show ∀ q ∈ lw_privs_1 ++ (lw_privs_2 ++ (lw_privs_3 ++ (lw_privs_4 ++ (lw_privs_5)))), lw_okq q
  exact List.forall_mem_append.mpr ⟨lw_r1, List.forall_mem_append.mpr ⟨lw_r2, List.forall_mem_append.mpr ⟨lw_r3, List.forall_mem_append.mpr ⟨lw_r4, lw_r5⟩⟩⟩⟩
end
section
def RX0 : String := "AlmsHouse$Change"
def TX0 : u_T := fun k => match k with
  | 0 => ("AlmsHouse$Change", "scheme", "I", true)
  | 1 => ("AlmsHouse$Change", "will", "I", true)
  | 2 => ("AlmsHouse$Change", "day", "I", true)
  | 3 => ("AlmsHouse$Change", "what", "I", true)
  | 4 => ("AlmsHouse$Change", "number", "I", true)
  | _ => ("AlmsHouse$Change", "code", "[I", true)
def tyX0 : Nat → FieldType := fun k => match k with
  | 0 => .int
  | 1 => .int
  | 2 => .int
  | 3 => .int
  | 4 => .int
  | _ => .array .int
abbrev wsX00 : List Cond := u_ws RX0 TX0 6
theorem nmX0 : ∀ a, a < 6 → ∀ b, b < 6 → a ≠ b → (TX0 a).2.1 ≠ (TX0 b).2.1 := by decide +kernel
theorem tyX0_ok : ∀ k, k < 6 → parseFieldDescriptor (TX0 k).2.2.1 = some (tyX0 k) := by decide +kernel
abbrev cX0_init : ByteArray := prog_2_method_1_code
def yX0_init : MethodName := ⟨RX0, "<init>", "(IIIII[I)V"⟩
abbrev cX0_step : ByteArray := prog_2_method_2_code
def yX0_step : MethodName := ⟨RX0, "step", "(III)I"⟩
abbrev cX0_holdsFor : ByteArray := prog_2_method_3_code
def yX0_holdsFor : MethodName := ⟨RX0, "holdsFor", "(LAlmsHouse$Person;I)Z"⟩
abbrev cX0_sumFor : ByteArray := prog_2_method_4_code
def yX0_sumFor : MethodName := ⟨RX0, "sumFor", "(LAlmsHouse$Person;I)I"⟩
abbrev cX0_compares : ByteArray := prog_2_method_5_code
def yX0_compares : MethodName := ⟨RX0, "compares", "(III)Z"⟩
abbrev cX0_doesOf : ByteArray := prog_2_method_6_code
def yX0_doesOf : MethodName := ⟨RX0, "doesOf", "(I)I"⟩
abbrev cX0_nameOf : ByteArray := prog_2_method_7_code
def yX0_nameOf : MethodName := ⟨RX0, "nameOf", "(I)I"⟩
abbrev cX0_numberOf : ByteArray := prog_2_method_8_code
def yX0_numberOf : MethodName := ⟨RX0, "numberOf", "(I)I"⟩
def RX1 : String := "AlmsHouse$Chest"
def TX1 : u_T := fun k => match k with
  | 0 => ("AlmsHouse$Chest", "content", "I", false)
  | _ => ("AlmsHouse$Chest", "rents", "J", false)
def tyX1 : Nat → FieldType := fun k => match k with
  | 0 => .int
  | _ => .long
abbrev wsX10 : List Cond := u_ws RX1 TX1 2
theorem nmX1 : ∀ a, a < 2 → ∀ b, b < 2 → a ≠ b → (TX1 a).2.1 ≠ (TX1 b).2.1 := by decide +kernel
theorem tyX1_ok : ∀ k, k < 2 → parseFieldDescriptor (TX1 k).2.2.1 = some (tyX1 k) := by decide +kernel
abbrev cX1_init : ByteArray := prog_3_method_1_code
def yX1_init : MethodName := ⟨RX1, "<init>", "()V"⟩
abbrev cX1_takeIn : ByteArray := prog_3_method_2_code
def yX1_takeIn : MethodName := ⟨RX1, "takeIn", "(I)V"⟩
abbrev cX1_payOut : ByteArray := prog_3_method_3_code
def yX1_payOut : MethodName := ⟨RX1, "payOut", "(I)I"⟩
def RX2 : String := "AlmsHouse$Land"
def TX2 : u_T := fun k => match k with
  | 0 => ("AlmsHouse$Land", "rent", "I", true)
  | 1 => ("AlmsHouse$Land", "each", "I", true)
  | _ => ("AlmsHouse$Land", "first", "I", true)
def tyX2 : Nat → FieldType := fun k => match k with
  | 0 => .int
  | 1 => .int
  | _ => .int
abbrev wsX20 : List Cond := u_ws RX2 TX2 3
theorem nmX2 : ∀ a, a < 3 → ∀ b, b < 3 → a ≠ b → (TX2 a).2.1 ≠ (TX2 b).2.1 := by decide +kernel
theorem tyX2_ok : ∀ k, k < 3 → parseFieldDescriptor (TX2 k).2.2.1 = some (tyX2 k) := by decide +kernel
abbrev cX2_init : ByteArray := prog_4_method_1_code
def yX2_init : MethodName := ⟨RX2, "<init>", "(III)V"⟩
abbrev cX2_isDueOn : ByteArray := prog_4_method_2_code
def yX2_isDueOn : MethodName := ⟨RX2, "isDueOn", "(I)Z"⟩
def RX3 : String := "AlmsHouse$Person"
def TX3 : u_T := fun k => match k with
  | 0 => ("AlmsHouse$Person", "birth", "I", true)
  | 1 => ("AlmsHouse$Person", "coming", "I", true)
  | 2 => ("AlmsHouse$Person", "kin", "Z", true)
  | 3 => ("AlmsHouse$Person", "asked", "I", true)
  | 4 => ("AlmsHouse$Person", "meansDays", "[I", true)
  | 5 => ("AlmsHouse$Person", "meansValues", "[I", true)
  | 6 => ("AlmsHouse$Person", "told", "I", false)
  | 7 => ("AlmsHouse$Person", "died", "I", false)
  | 8 => ("AlmsHouse$Person", "room", "I", false)
  | 9 => ("AlmsHouse$Person", "owed", "I", false)
  | _ => ("AlmsHouse$Person", "got", "I", false)
def tyX3 : Nat → FieldType := fun k => match k with
  | 0 => .int
  | 1 => .int
  | 2 => .boolean
  | 3 => .int
  | 4 => .array .int
  | 5 => .array .int
  | 6 => .int
  | 7 => .int
  | 8 => .int
  | 9 => .int
  | _ => .int
abbrev wsX30 : List Cond := u_ws RX3 TX3 11
theorem nmX3 : ∀ a, a < 11 → ∀ b, b < 11 → a ≠ b → (TX3 a).2.1 ≠ (TX3 b).2.1 := by decide +kernel
theorem tyX3_ok : ∀ k, k < 11 → parseFieldDescriptor (TX3 k).2.2.1 = some (tyX3 k) := by decide +kernel
abbrev cX3_init : ByteArray := prog_5_method_1_code
def yX3_init : MethodName := ⟨RX3, "<init>", "(IIZI)V"⟩
abbrev cX3_tellMeans : ByteArray := prog_5_method_2_code
def yX3_tellMeans : MethodName := ⟨RX3, "tellMeans", "(II)V"⟩
abbrev cX3_tell : ByteArray := prog_5_method_3_code
def yX3_tell : MethodName := ⟨RX3, "tell", "(II)I"⟩
abbrev cX3_meansOn : ByteArray := prog_5_method_4_code
def yX3_meansOn : MethodName := ⟨RX3, "meansOn", "(I)I"⟩
def RX4 : String := "AlmsHouse$Reader"
def TX4 : u_T := fun k => match k with
  | 0 => ("AlmsHouse$Reader", "tape", "LAlmsHouse$Tape;", true)
  | 1 => ("AlmsHouse$Reader", "writer", "LAlmsHouse$Writer;", true)
  | 2 => ("AlmsHouse$Reader", "whats", "[I", true)
  | 3 => ("AlmsHouse$Reader", "numbers", "[I", true)
  | 4 => ("AlmsHouse$Reader", "ends", "[I", true)
  | 5 => ("AlmsHouse$Reader", "changes", "I", false)
  | 6 => ("AlmsHouse$Reader", "found", "I", false)
  | 7 => ("AlmsHouse$Reader", "comparisons", "I", false)
  | 8 => ("AlmsHouse$Reader", "terms", "I", false)
  | 9 => ("AlmsHouse$Reader", "open", "I", false)
  | 10 => ("AlmsHouse$Reader", "nots", "I", false)
  | 11 => ("AlmsHouse$Reader", "name", "I", false)
  | 12 => ("AlmsHouse$Reader", "sign", "I", false)
  | _ => ("AlmsHouse$Reader", "number", "I", false)
def tyX4 : Nat → FieldType := fun k => match k with
  | 0 => .object "AlmsHouse$Tape"
  | 1 => .object "AlmsHouse$Writer"
  | 2 => .array .int
  | 3 => .array .int
  | 4 => .array .int
  | 5 => .int
  | 6 => .int
  | 7 => .int
  | 8 => .int
  | 9 => .int
  | 10 => .int
  | 11 => .int
  | 12 => .int
  | _ => .int
abbrev wsX40 : List Cond := u_ws RX4 TX4 14
theorem nmX4 : ∀ a, a < 14 → ∀ b, b < 14 → a ≠ b → (TX4 a).2.1 ≠ (TX4 b).2.1 := by decide +kernel
theorem tyX4_ok : ∀ k, k < 14 → parseFieldDescriptor (TX4 k).2.2.1 = some (tyX4 k) := by decide +kernel
abbrev cX4_init : ByteArray := prog_6_method_1_code
def yX4_init : MethodName := ⟨RX4, "<init>", "(LAlmsHouse$Tape;)V"⟩
abbrev cX4_read : ByteArray := prog_6_method_2_code
def yX4_read : MethodName := ⟨RX4, "read", "(I)I"⟩
abbrev cX4_whatOf : ByteArray := prog_6_method_3_code
def yX4_whatOf : MethodName := ⟨RX4, "whatOf", "(I)I"⟩
abbrev cX4_numberOf : ByteArray := prog_6_method_4_code
def yX4_numberOf : MethodName := ⟨RX4, "numberOf", "(I)I"⟩
abbrev cX4_codeOf : ByteArray := prog_6_method_5_code
def yX4_codeOf : MethodName := ⟨RX4, "codeOf", "(I)[I"⟩
abbrev cX4_begin : ByteArray := prog_6_method_6_code
def yX4_begin : MethodName := ⟨RX4, "begin", "()V"⟩
abbrev cX4_step : ByteArray := prog_6_method_7_code
def yX4_step : MethodName := ⟨RX4, "step", "(I)I"⟩
abbrev cX4_readChange : ByteArray := prog_6_method_8_code
def yX4_readChange : MethodName := ⟨RX4, "readChange", "()I"⟩
abbrev cX4_readClauseNumber : ByteArray := prog_6_method_9_code
def yX4_readClauseNumber : MethodName := ⟨RX4, "readClauseNumber", "(I)I"⟩
abbrev cX4_readBehindChange : ByteArray := prog_6_method_10_code
def yX4_readBehindChange : MethodName := ⟨RX4, "readBehindChange", "()I"⟩
abbrev cX4_readOne : ByteArray := prog_6_method_11_code
def yX4_readOne : MethodName := ⟨RX4, "readOne", "()I"⟩
abbrev cX4_readSign : ByteArray := prog_6_method_12_code
def yX4_readSign : MethodName := ⟨RX4, "readSign", "()I"⟩
abbrev cX4_readValue : ByteArray := prog_6_method_13_code
def yX4_readValue : MethodName := ⟨RX4, "readValue", "()I"⟩
abbrev cX4_readBehindOne : ByteArray := prog_6_method_14_code
def yX4_readBehindOne : MethodName := ⟨RX4, "readBehindOne", "()I"⟩
abbrev cX4_readTerm : ByteArray := prog_6_method_15_code
def yX4_readTerm : MethodName := ⟨RX4, "readTerm", "()I"⟩
abbrev cX4_readBehindNumber : ByteArray := prog_6_method_16_code
def yX4_readBehindNumber : MethodName := ⟨RX4, "readBehindNumber", "()I"⟩
abbrev cX4_readFactor : ByteArray := prog_6_method_17_code
def yX4_readFactor : MethodName := ⟨RX4, "readFactor", "()I"⟩
abbrev cX4_readBehindTerm : ByteArray := prog_6_method_18_code
def yX4_readBehindTerm : MethodName := ⟨RX4, "readBehindTerm", "()I"⟩
abbrev cX4_noName : ByteArray := prog_6_method_19_code
def yX4_noName : MethodName := ⟨RX4, "noName", "()I"⟩
abbrev cX4_faulty : ByteArray := prog_6_method_20_code
def yX4_faulty : MethodName := ⟨RX4, "faulty", "(I)I"⟩
def RX5 : String := "AlmsHouse$Room"
def TX5 : u_T := fun k => match k with
  | 0 => ("AlmsHouse$Room", "will", "I", true)
  | 1 => ("AlmsHouse$Room", "stay", "LAlmsHouse$Stay;", false)
  | _ => ("AlmsHouse$Room", "giver", "I", false)
def tyX5 : Nat → FieldType := fun k => match k with
  | 0 => .int
  | 1 => .object "AlmsHouse$Stay"
  | _ => .int
abbrev wsX50 : List Cond := u_ws RX5 TX5 3
theorem nmX5 : ∀ a, a < 3 → ∀ b, b < 3 → a ≠ b → (TX5 a).2.1 ≠ (TX5 b).2.1 := by decide +kernel
theorem tyX5_ok : ∀ k, k < 3 → parseFieldDescriptor (TX5 k).2.2.1 = some (tyX5 k) := by decide +kernel
abbrev cX5_init : ByteArray := prog_7_method_1_code
def yX5_init : MethodName := ⟨RX5, "<init>", "(I)V"⟩
def RX6 : String := "AlmsHouse$Standing"
def TX6 : u_T := fun k => match k with
  | _ => ("AlmsHouse$Standing", "latest", "[LAlmsHouse$Change;", true)
def tyX6 : Nat → FieldType := fun k => match k with
  | _ => .array (.object "AlmsHouse$Change")
abbrev wsX60 : List Cond := u_ws RX6 TX6 1
theorem nmX6 : ∀ a, a < 1 → ∀ b, b < 1 → a ≠ b → (TX6 a).2.1 ≠ (TX6 b).2.1 := by decide +kernel
theorem tyX6_ok : ∀ k, k < 1 → parseFieldDescriptor (TX6 k).2.2.1 = some (tyX6 k) := by decide +kernel
abbrev cX6_init : ByteArray := prog_8_method_1_code
def yX6_init : MethodName := ⟨RX6, "<init>", "()V"⟩
abbrev cX6_settle : ByteArray := prog_8_method_2_code
def yX6_settle : MethodName := ⟨RX6, "settle", "(Ljava/util/ArrayList;II)V"⟩
abbrev cX6_clauseAt : ByteArray := prog_8_method_3_code
def yX6_clauseAt : MethodName := ⟨RX6, "clauseAt", "(I)LAlmsHouse$Change;"⟩
abbrev cX6_howMany : ByteArray := prog_8_method_4_code
def yX6_howMany : MethodName := ⟨RX6, "howMany", "()I"⟩
abbrev cX6_firstBar : ByteArray := prog_8_method_5_code
def yX6_firstBar : MethodName := ⟨RX6, "firstBar", "(LAlmsHouse$Person;I)I"⟩
abbrev cX6_admits : ByteArray := prog_8_method_6_code
def yX6_admits : MethodName := ⟨RX6, "admits", "(LAlmsHouse$Person;I)Z"⟩
abbrev cX6_rank : ByteArray := prog_8_method_7_code
def yX6_rank : MethodName := ⟨RX6, "rank", "(LAlmsHouse$Person;I)I"⟩
abbrev cX6_consider : ByteArray := prog_8_method_8_code
def yX6_consider : MethodName := ⟨RX6, "consider", "(LAlmsHouse$Change;)V"⟩
def RX7 : String := "AlmsHouse$Stay"
def TX7 : u_T := fun k => match k with
  | 0 => ("AlmsHouse$Stay", "room", "I", true)
  | 1 => ("AlmsHouse$Stay", "person", "I", true)
  | 2 => ("AlmsHouse$Stay", "from", "I", true)
  | _ => ("AlmsHouse$Stay", "until", "I", false)
def tyX7 : Nat → FieldType := fun k => match k with
  | 0 => .int
  | 1 => .int
  | 2 => .int
  | _ => .int
abbrev wsX70 : List Cond := u_ws RX7 TX7 4
theorem nmX7 : ∀ a, a < 4 → ∀ b, b < 4 → a ≠ b → (TX7 a).2.1 ≠ (TX7 b).2.1 := by decide +kernel
theorem tyX7_ok : ∀ k, k < 4 → parseFieldDescriptor (TX7 k).2.2.1 = some (tyX7 k) := by decide +kernel
abbrev cX7_init : ByteArray := prog_9_method_1_code
def yX7_init : MethodName := ⟨RX7, "<init>", "(III)V"⟩
def RX8 : String := "AlmsHouse$Tape"
def TX8 : u_T := fun k => match k with
  | 0 => ("AlmsHouse$Tape", "bytes", "[I", true)
  | 1 => ("AlmsHouse$Tape", "length", "I", false)
  | 2 => ("AlmsHouse$Tape", "end", "I", false)
  | 3 => ("AlmsHouse$Tape", "at", "I", false)
  | 4 => ("AlmsHouse$Tape", "place", "I", false)
  | 5 => ("AlmsHouse$Tape", "kind", "I", false)
  | _ => ("AlmsHouse$Tape", "value", "I", false)
def tyX8 : Nat → FieldType := fun k => match k with
  | 0 => .array .int
  | 1 => .int
  | 2 => .int
  | 3 => .int
  | 4 => .int
  | 5 => .int
  | _ => .int
abbrev wsX80 : List Cond := u_ws RX8 TX8 7
theorem nmX8 : ∀ a, a < 7 → ∀ b, b < 7 → a ≠ b → (TX8 a).2.1 ≠ (TX8 b).2.1 := by decide +kernel
theorem tyX8_ok : ∀ k, k < 7 → parseFieldDescriptor (TX8 k).2.2.1 = some (tyX8 k) := by decide +kernel
abbrev cX8_init : ByteArray := prog_10_method_1_code
def yX8_init : MethodName := ⟨RX8, "<init>", "()V"⟩
abbrev cX8_append : ByteArray := prog_10_method_2_code
def yX8_append : MethodName := ⟨RX8, "append", "(I)V"⟩
abbrev cX8_rewind : ByteArray := prog_10_method_3_code
def yX8_rewind : MethodName := ⟨RX8, "rewind", "(I)V"⟩
abbrev cX8_advance : ByteArray := prog_10_method_4_code
def yX8_advance : MethodName := ⟨RX8, "advance", "()V"⟩
abbrev cX8_takeNumber : ByteArray := prog_10_method_5_code
def yX8_takeNumber : MethodName := ⟨RX8, "takeNumber", "()V"⟩
abbrev cX8_takeWord : ByteArray := prog_10_method_6_code
def yX8_takeWord : MethodName := ⟨RX8, "takeWord", "()V"⟩
abbrev cX8_keywordKind : ByteArray := prog_10_method_7_code
def yX8_keywordKind : MethodName := ⟨RX8, "keywordKind", "()I"⟩
abbrev cX8_nameNumber : ByteArray := prog_10_method_8_code
def yX8_nameNumber : MethodName := ⟨RX8, "nameNumber", "()I"⟩
abbrev cX8_spells : ByteArray := prog_10_method_9_code
def yX8_spells : MethodName := ⟨RX8, "spells", "(Ljava/lang/String;)Z"⟩
abbrev cX8_byteAt : ByteArray := prog_10_method_10_code
def yX8_byteAt : MethodName := ⟨RX8, "byteAt", "(I)I"⟩
abbrev cX8_isDigit : ByteArray := prog_10_method_11_code
def yX8_isDigit : MethodName := ⟨RX8, "isDigit", "(I)Z"⟩
abbrev cX8_isLetter : ByteArray := prog_10_method_12_code
def yX8_isLetter : MethodName := ⟨RX8, "isLetter", "(I)Z"⟩
abbrev cX8_isSign : ByteArray := prog_10_method_13_code
def yX8_isSign : MethodName := ⟨RX8, "isSign", "(I)Z"⟩
def RX9 : String := "AlmsHouse$Trustees"
def TX9 : u_T := fun k => match k with
  | 0 => ("AlmsHouse$Trustees", "absent", "[Z", true)
  | 1 => ("AlmsHouse$Trustees", "size", "I", false)
  | _ => ("AlmsHouse$Trustees", "turn", "I", false)
def tyX9 : Nat → FieldType := fun k => match k with
  | 0 => .array .boolean
  | 1 => .int
  | _ => .int
abbrev wsX90 : List Cond := u_ws RX9 TX9 3
theorem nmX9 : ∀ a, a < 3 → ∀ b, b < 3 → a ≠ b → (TX9 a).2.1 ≠ (TX9 b).2.1 := by decide +kernel
theorem tyX9_ok : ∀ k, k < 3 → parseFieldDescriptor (TX9 k).2.2.1 = some (tyX9 k) := by decide +kernel
abbrev cX9_init : ByteArray := prog_11_method_1_code
def yX9_init : MethodName := ⟨RX9, "<init>", "()V"⟩
abbrev cX9_setAbsent : ByteArray := prog_11_method_2_code
def yX9_setAbsent : MethodName := ⟨RX9, "setAbsent", "(IZ)V"⟩
abbrev cX9_giver : ByteArray := prog_11_method_3_code
def yX9_giver : MethodName := ⟨RX9, "giver", "()I"⟩
abbrev cX9_moveTurnBehind : ByteArray := prog_11_method_4_code
def yX9_moveTurnBehind : MethodName := ⟨RX9, "moveTurnBehind", "(I)V"⟩
abbrev cX9_behind : ByteArray := prog_11_method_5_code
def yX9_behind : MethodName := ⟨RX9, "behind", "(I)I"⟩
def RX10 : String := "AlmsHouse$Writer"
def TX10 : u_T := fun k => match k with
  | 0 => ("AlmsHouse$Writer", "code", "[I", true)
  | 1 => ("AlmsHouse$Writer", "held", "[I", true)
  | 2 => ("AlmsHouse$Writer", "length", "I", false)
  | _ => ("AlmsHouse$Writer", "holding", "I", false)
def tyX10 : Nat → FieldType := fun k => match k with
  | 0 => .array .int
  | 1 => .array .int
  | 2 => .int
  | _ => .int
abbrev wsX100 : List Cond := u_ws RX10 TX10 4
theorem nmX10 : ∀ a, a < 4 → ∀ b, b < 4 → a ≠ b → (TX10 a).2.1 ≠ (TX10 b).2.1 := by decide +kernel
theorem tyX10_ok : ∀ k, k < 4 → parseFieldDescriptor (TX10 k).2.2.1 = some (tyX10 k) := by decide +kernel
abbrev cX10_init : ByteArray := prog_12_method_1_code
def yX10_init : MethodName := ⟨RX10, "<init>", "()V"⟩
abbrev cX10_begin : ByteArray := prog_12_method_2_code
def yX10_begin : MethodName := ⟨RX10, "begin", "()V"⟩
abbrev cX10_write : ByteArray := prog_12_method_3_code
def yX10_write : MethodName := ⟨RX10, "write", "(I)V"⟩
abbrev cX10_hold : ByteArray := prog_12_method_4_code
def yX10_hold : MethodName := ⟨RX10, "hold", "(I)V"⟩
abbrev cX10_endOne : ByteArray := prog_12_method_5_code
def yX10_endOne : MethodName := ⟨RX10, "endOne", "()V"⟩
abbrev cX10_join : ByteArray := prog_12_method_6_code
def yX10_join : MethodName := ⟨RX10, "join", "(I)V"⟩
abbrev cX10_endAny : ByteArray := prog_12_method_7_code
def yX10_endAny : MethodName := ⟨RX10, "endAny", "()V"⟩
abbrev cX10_closeBracket : ByteArray := prog_12_method_8_code
def yX10_closeBracket : MethodName := ⟨RX10, "closeBracket", "()V"⟩
abbrev cX10_release : ByteArray := prog_12_method_9_code
def yX10_release : MethodName := ⟨RX10, "release", "(I)V"⟩
def RX11 : String := "AlmsHouse"
def TX11 : u_T := fun k => match k with
  | 0 => ("AlmsHouse", "tape", "LAlmsHouse$Tape;", true)
  | 1 => ("AlmsHouse", "reader", "LAlmsHouse$Reader;", true)
  | 2 => ("AlmsHouse", "changes", "Ljava/util/ArrayList;", true)
  | 3 => ("AlmsHouse", "standing", "LAlmsHouse$Standing;", true)
  | 4 => ("AlmsHouse", "people", "Ljava/util/ArrayList;", true)
  | 5 => ("AlmsHouse", "rooms", "Ljava/util/ArrayList;", true)
  | 6 => ("AlmsHouse", "stays", "Ljava/util/ArrayList;", true)
  | 7 => ("AlmsHouse", "trustees", "LAlmsHouse$Trustees;", true)
  | 8 => ("AlmsHouse", "lands", "Ljava/util/ArrayList;", true)
  | 9 => ("AlmsHouse", "chest", "LAlmsHouse$Chest;", true)
  | 10 => ("AlmsHouse", "wills", "I", false)
  | 11 => ("AlmsHouse", "schemes", "I", false)
  | 12 => ("AlmsHouse", "dole", "I", false)
  | 13 => ("AlmsHouse", "today", "I", false)
  | 14 => ("AlmsHouse", "trouble", "I", false)
  | 15 => ("AlmsHouse", "fault", "I", false)
  | _ => ("AlmsHouse", "faultPlace", "I", false)
def tyX11 : Nat → FieldType := fun k => match k with
  | 0 => .object "AlmsHouse$Tape"
  | 1 => .object "AlmsHouse$Reader"
  | 2 => .object "java/util/ArrayList"
  | 3 => .object "AlmsHouse$Standing"
  | 4 => .object "java/util/ArrayList"
  | 5 => .object "java/util/ArrayList"
  | 6 => .object "java/util/ArrayList"
  | 7 => .object "AlmsHouse$Trustees"
  | 8 => .object "java/util/ArrayList"
  | 9 => .object "AlmsHouse$Chest"
  | 10 => .int
  | 11 => .int
  | 12 => .int
  | 13 => .int
  | 14 => .int
  | 15 => .int
  | _ => .int
abbrev wsX110 : List Cond := u_ws RX11 TX11 17
theorem nmX11 : ∀ a, a < 17 → ∀ b, b < 17 → a ≠ b → (TX11 a).2.1 ≠ (TX11 b).2.1 := by decide +kernel
theorem tyX11_ok : ∀ k, k < 17 → parseFieldDescriptor (TX11 k).2.2.1 = some (tyX11 k) := by decide +kernel
abbrev cX11_init : ByteArray := prog_1_method_1_code
def yX11_init : MethodName := ⟨RX11, "<init>", "()V"⟩
abbrev cX11_will : ByteArray := prog_1_method_2_code
def yX11_will : MethodName := ⟨RX11, "will", "()I"⟩
abbrev cX11_feed : ByteArray := prog_1_method_3_code
def yX11_feed : MethodName := ⟨RX11, "feed", "(IIIII)I"⟩
abbrev cX11_scheme : ByteArray := prog_1_method_4_code
def yX11_scheme : MethodName := ⟨RX11, "scheme", "(III)I"⟩
abbrev cX11_fault : ByteArray := prog_1_method_5_code
def yX11_fault : MethodName := ⟨RX11, "fault", "()I"⟩
abbrev cX11_where : ByteArray := prog_1_method_6_code
def yX11_where : MethodName := ⟨RX11, "where", "()I"⟩
abbrev cX11_clause : ByteArray := prog_1_method_7_code
def yX11_clause : MethodName := ⟨RX11, "clause", "(III)I"⟩
abbrev cX11_clauses : ByteArray := prog_1_method_8_code
def yX11_clauses : MethodName := ⟨RX11, "clauses", "(II)I"⟩
abbrev cX11_person : ByteArray := prog_1_method_9_code
def yX11_person : MethodName := ⟨RX11, "person", "(IIZ)I"⟩
abbrev cX11_means : ByteArray := prog_1_method_10_code
def yX11_means : MethodName := ⟨RX11, "means", "(III)I"⟩
abbrev cX11_dies : ByteArray := prog_1_method_11_code
def yX11_dies : MethodName := ⟨RX11, "dies", "(I)Z"⟩
abbrev cX11_fact : ByteArray := prog_1_method_12_code
def yX11_fact : MethodName := ⟨RX11, "fact", "(III)I"⟩
abbrev cX11_may : ByteArray := prog_1_method_13_code
def yX11_may : MethodName := ⟨RX11, "may", "(III)I"⟩
abbrev cX11_bars : ByteArray := prog_1_method_14_code
def yX11_bars : MethodName := ⟨RX11, "bars", "(III)I"⟩
abbrev cX11_order : ByteArray := prog_1_method_15_code
def yX11_order : MethodName := ⟨RX11, "order", "(III)I"⟩
abbrev cX11_list : ByteArray := prog_1_method_16_code
def yX11_list : MethodName := ⟨RX11, "list", "(II)I"⟩
abbrev cX11_next : ByteArray := prog_1_method_17_code
def yX11_next : MethodName := ⟨RX11, "next", "(II)I"⟩
abbrev cX11_room : ByteArray := prog_1_method_18_code
def yX11_room : MethodName := ⟨RX11, "room", "(I)I"⟩
abbrev cX11_trustee : ByteArray := prog_1_method_19_code
def yX11_trustee : MethodName := ⟨RX11, "trustee", "()I"⟩
abbrev cX11_away : ByteArray := prog_1_method_20_code
def yX11_away : MethodName := ⟨RX11, "away", "(IZ)Z"⟩
abbrev cX11_fill : ByteArray := prog_1_method_21_code
def yX11_fill : MethodName := ⟨RX11, "fill", "(I)I"⟩
abbrev cX11_leave : ByteArray := prog_1_method_22_code
def yX11_leave : MethodName := ⟨RX11, "leave", "(I)I"⟩
abbrev cX11_roomOf : ByteArray := prog_1_method_23_code
def yX11_roomOf : MethodName := ⟨RX11, "roomOf", "(II)I"⟩
abbrev cX11_had : ByteArray := prog_1_method_24_code
def yX11_had : MethodName := ⟨RX11, "had", "(II)I"⟩
abbrev cX11_land : ByteArray := prog_1_method_25_code
def yX11_land : MethodName := ⟨RX11, "land", "(III)I"⟩
abbrev cX11_dole : ByteArray := prog_1_method_26_code
def yX11_dole : MethodName := ⟨RX11, "dole", "(I)Z"⟩
abbrev cX11_pass : ByteArray := prog_1_method_27_code
def yX11_pass : MethodName := ⟨RX11, "pass", "(I)I"⟩
abbrev cX11_owed : ByteArray := prog_1_method_28_code
def yX11_owed : MethodName := ⟨RX11, "owed", "(I)I"⟩
abbrev cX11_got : ByteArray := prog_1_method_29_code
def yX11_got : MethodName := ⟨RX11, "got", "(I)I"⟩
abbrev cX11_count : ByteArray := prog_1_method_30_code
def yX11_count : MethodName := ⟨RX11, "count", "(I)I"⟩
abbrev cX11_trouble : ByteArray := prog_1_method_31_code
def yX11_trouble : MethodName := ⟨RX11, "trouble", "()I"⟩
abbrev cX11_refuse : ByteArray := prog_1_method_32_code
def yX11_refuse : MethodName := ⟨RX11, "refuse", "(I)I"⟩
abbrev cX11_accept : ByteArray := prog_1_method_33_code
def yX11_accept : MethodName := ⟨RX11, "accept", "(I)I"⟩
abbrev cX11_isWill : ByteArray := prog_1_method_34_code
def yX11_isWill : MethodName := ⟨RX11, "isWill", "(I)Z"⟩
abbrev cX11_isDay : ByteArray := prog_1_method_35_code
def yX11_isDay : MethodName := ⟨RX11, "isDay", "(I)Z"⟩
abbrev cX11_personAt : ByteArray := prog_1_method_36_code
def yX11_personAt : MethodName := ⟨RX11, "personAt", "(I)LAlmsHouse$Person;"⟩
abbrev cX11_roomAt : ByteArray := prog_1_method_37_code
def yX11_roomAt : MethodName := ⟨RX11, "roomAt", "(I)LAlmsHouse$Room;"⟩
abbrev cX11_keepChanges : ByteArray := prog_1_method_38_code
def yX11_keepChanges : MethodName := ⟨RX11, "keepChanges", "(II)V"⟩
abbrev cX11_choose : ByteArray := prog_1_method_39_code
def yX11_choose : MethodName := ⟨RX11, "choose", "(II)I"⟩
abbrev cX11_empty : ByteArray := prog_1_method_40_code
def yX11_empty : MethodName := ⟨RX11, "empty", "(LAlmsHouse$Room;)V"⟩
abbrev cX11_emptyRooms : ByteArray := prog_1_method_41_code
def yX11_emptyRooms : MethodName := ⟨RX11, "emptyRooms", "()I"⟩
abbrev cX11_bringRents : ByteArray := prog_1_method_42_code
def yX11_bringRents : MethodName := ⟨RX11, "bringRents", "()V"⟩
abbrev cX11_payDoles : ByteArray := prog_1_method_43_code
def yX11_payDoles : MethodName := ⟨RX11, "payDoles", "()V"⟩
def RX12 : String := "AlmsHouseModel$Scheme"
def TX12 : u_T := fun k => match k with
  | 0 => ("AlmsHouseModel$Scheme", "will", "I", false)
  | 1 => ("AlmsHouseModel$Scheme", "day", "I", false)
  | 2 => ("AlmsHouseModel$Scheme", "changes", "I", false)
  | 3 => ("AlmsHouseModel$Scheme", "signs", "I", false)
  | 4 => ("AlmsHouseModel$Scheme", "what", "[I", true)
  | 5 => ("AlmsHouseModel$Scheme", "number", "[I", true)
  | 6 => ("AlmsHouseModel$Scheme", "from", "[I", true)
  | 7 => ("AlmsHouseModel$Scheme", "to", "[I", true)
  | 8 => ("AlmsHouseModel$Scheme", "terms", "[I", true)
  | 9 => ("AlmsHouseModel$Scheme", "sign", "[I", true)
  | 10 => ("AlmsHouseModel$Scheme", "name", "[I", true)
  | 11 => ("AlmsHouseModel$Scheme", "than", "[I", true)
  | 12 => ("AlmsHouseModel$Scheme", "termName", "[I", true)
  | _ => ("AlmsHouseModel$Scheme", "times", "[I", true)
def tyX12 : Nat → FieldType := fun k => match k with
  | 0 => .int
  | 1 => .int
  | 2 => .int
  | 3 => .int
  | 4 => .array .int
  | 5 => .array .int
  | 6 => .array .int
  | 7 => .array .int
  | 8 => .array .int
  | 9 => .array .int
  | 10 => .array .int
  | 11 => .array .int
  | 12 => .array .int
  | _ => .array .int
abbrev wsX120 : List Cond := u_ws RX12 TX12 14
theorem nmX12 : ∀ a, a < 14 → ∀ b, b < 14 → a ≠ b → (TX12 a).2.1 ≠ (TX12 b).2.1 := by decide +kernel
theorem tyX12_ok : ∀ k, k < 14 → parseFieldDescriptor (TX12 k).2.2.1 = some (tyX12 k) := by decide +kernel
abbrev cX12_init : ByteArray := prog_15_method_1_code
def yX12_init : MethodName := ⟨RX12, "<init>", "()V"⟩
abbrev cX12_put : ByteArray := prog_15_method_2_code
def yX12_put : MethodName := ⟨RX12, "put", "(III)V"⟩
def RX13 : String := "AlmsHouseModel$Stop"
def TX13 : u_T := fun k => match k with
  | 0 => ("java/lang/Throwable", "cause", "Ljava/lang/Throwable;", false)
  | 1 => ("java/lang/Throwable", "stackTrace", "[Ljava/lang/StackTraceElement;", false)
  | 2 => ("java/lang/Throwable", "suppressedExceptions", "Ljava/util/List;", false)
  | 3 => ("java/lang/Throwable", "detailMessage", "Ljava/lang/String;", false)
  | 4 => ("java/lang/Throwable", "backtrace", "Ljava/lang/Object;", false)
  | 5 => ("java/lang/Throwable", "depth", "I", false)
  | 6 => ("AlmsHouseModel$Stop", "kind", "I", false)
  | _ => ("AlmsHouseModel$Stop", "place", "I", false)
def tyX13 : Nat → FieldType := fun k => match k with
  | 0 => .object "java/lang/Throwable"
  | 1 => .array (.object "java/lang/StackTraceElement")
  | 2 => .object "java/util/List"
  | 3 => .object "java/lang/String"
  | 4 => .object "java/lang/Object"
  | 5 => .int
  | 6 => .int
  | _ => .int
abbrev wsX130 : List Cond := u_ws RX13 TX13 8
theorem nmX13 : ∀ a, a < 8 → ∀ b, b < 8 → a ≠ b → (TX13 a).2.1 ≠ (TX13 b).2.1 := by decide +kernel
theorem tyX13_ok : ∀ k, k < 8 → parseFieldDescriptor (TX13 k).2.2.1 = some (tyX13 k) := by decide +kernel
abbrev cX13_init : ByteArray := prog_16_method_1_code
def yX13_init : MethodName := ⟨RX13, "<init>", "()V"⟩
def RX14 : String := "AlmsHouseModel"
def TX14 : u_T := fun k => match k with
  | 0 => ("AlmsHouseModel", "thrown", "I", false)
  | 1 => ("AlmsHouseModel", "trouble", "I", false)
  | 2 => ("AlmsHouseModel", "where", "I", false)
  | 3 => ("AlmsHouseModel", "fault", "I", false)
  | 4 => ("AlmsHouseModel", "wills", "I", false)
  | 5 => ("AlmsHouseModel", "schemes", "I", false)
  | 6 => ("AlmsHouseModel", "scheme", "[LAlmsHouseModel$Scheme;", true)
  | 7 => ("AlmsHouseModel", "spare", "LAlmsHouseModel$Scheme;", true)
  | 8 => ("AlmsHouseModel", "stop", "LAlmsHouseModel$Stop;", true)
  | 9 => ("AlmsHouseModel", "tape", "[B", true)
  | 10 => ("AlmsHouseModel", "taped", "I", false)
  | 11 => ("AlmsHouseModel", "size", "I", false)
  | 12 => ("AlmsHouseModel", "at", "I", false)
  | 13 => ("AlmsHouseModel", "sort", "I", false)
  | 14 => ("AlmsHouseModel", "place", "I", false)
  | 15 => ("AlmsHouseModel", "mark", "I", false)
  | 16 => ("AlmsHouseModel", "number", "I", false)
  | 17 => ("AlmsHouseModel", "deep", "I", false)
  | 18 => ("AlmsHouseModel", "compared", "I", false)
  | 19 => ("AlmsHouseModel", "word", "J", false)
  | 20 => ("AlmsHouseModel", "foundScheme", "I", false)
  | 21 => ("AlmsHouseModel", "foundChange", "I", false)
  | 22 => ("AlmsHouseModel", "people", "I", false)
  | 23 => ("AlmsHouseModel", "today", "I", false)
  | 24 => ("AlmsHouseModel", "birth", "[I", true)
  | 25 => ("AlmsHouseModel", "coming", "[I", true)
  | 26 => ("AlmsHouseModel", "asked", "[I", true)
  | 27 => ("AlmsHouseModel", "dead", "[I", true)
  | 28 => ("AlmsHouseModel", "owed", "[I", true)
  | 29 => ("AlmsHouseModel", "got", "[I", true)
  | 30 => ("AlmsHouseModel", "roomOf", "[I", true)
  | 31 => ("AlmsHouseModel", "told", "[I", true)
  | 32 => ("AlmsHouseModel", "kin", "[Z", true)
  | 33 => ("AlmsHouseModel", "meansDay", "[I", true)
  | 34 => ("AlmsHouseModel", "meansIs", "[I", true)
  | 35 => ("AlmsHouseModel", "pile", "[Z", true)
  | 36 => ("AlmsHouseModel", "rooms", "I", false)
  | 37 => ("AlmsHouseModel", "stays", "I", false)
  | 38 => ("AlmsHouseModel", "trustees", "I", false)
  | 39 => ("AlmsHouseModel", "turn", "I", false)
  | 40 => ("AlmsHouseModel", "roomWill", "[I", true)
  | 41 => ("AlmsHouseModel", "roomHas", "[I", true)
  | 42 => ("AlmsHouseModel", "roomGave", "[I", true)
  | 43 => ("AlmsHouseModel", "stayRoom", "[I", true)
  | 44 => ("AlmsHouseModel", "stayWho", "[I", true)
  | 45 => ("AlmsHouseModel", "stayFrom", "[I", true)
  | 46 => ("AlmsHouseModel", "stayTo", "[I", true)
  | 47 => ("AlmsHouseModel", "isAway", "[Z", true)
  | 48 => ("AlmsHouseModel", "lands", "I", false)
  | 49 => ("AlmsHouseModel", "dole", "I", false)
  | 50 => ("AlmsHouseModel", "chest", "I", false)
  | 51 => ("AlmsHouseModel", "rents", "I", false)
  | 52 => ("AlmsHouseModel", "rent", "[I", true)
  | 53 => ("AlmsHouseModel", "each", "[I", true)
  | _ => ("AlmsHouseModel", "first", "[I", true)
def tyX14 : Nat → FieldType := fun k => match k with
  | 0 => .int
  | 1 => .int
  | 2 => .int
  | 3 => .int
  | 4 => .int
  | 5 => .int
  | 6 => .array (.object "AlmsHouseModel$Scheme")
  | 7 => .object "AlmsHouseModel$Scheme"
  | 8 => .object "AlmsHouseModel$Stop"
  | 9 => .array .byte
  | 10 => .int
  | 11 => .int
  | 12 => .int
  | 13 => .int
  | 14 => .int
  | 15 => .int
  | 16 => .int
  | 17 => .int
  | 18 => .int
  | 19 => .long
  | 20 => .int
  | 21 => .int
  | 22 => .int
  | 23 => .int
  | 24 => .array .int
  | 25 => .array .int
  | 26 => .array .int
  | 27 => .array .int
  | 28 => .array .int
  | 29 => .array .int
  | 30 => .array .int
  | 31 => .array .int
  | 32 => .array .boolean
  | 33 => .array .int
  | 34 => .array .int
  | 35 => .array .boolean
  | 36 => .int
  | 37 => .int
  | 38 => .int
  | 39 => .int
  | 40 => .array .int
  | 41 => .array .int
  | 42 => .array .int
  | 43 => .array .int
  | 44 => .array .int
  | 45 => .array .int
  | 46 => .array .int
  | 47 => .array .boolean
  | 48 => .int
  | 49 => .int
  | 50 => .int
  | 51 => .int
  | 52 => .array .int
  | 53 => .array .int
  | _ => .array .int
abbrev wsX140 : List Cond := u_ws RX14 TX14 55
theorem nmX14 : ∀ a, a < 55 → ∀ b, b < 55 → a ≠ b → (TX14 a).2.1 ≠ (TX14 b).2.1 := by decide +kernel
theorem tyX14_ok : ∀ k, k < 55 → parseFieldDescriptor (TX14 k).2.2.1 = some (tyX14 k) := by decide +kernel
abbrev cX14_init : ByteArray := prog_14_method_1_code
def yX14_init : MethodName := ⟨RX14, "<init>", "()V"⟩
abbrev cX14_refused : ByteArray := prog_14_method_3_code
def yX14_refused : MethodName := ⟨RX14, "refused", "(I)I"⟩
abbrev cX14_denied : ByteArray := prog_14_method_4_code
def yX14_denied : MethodName := ⟨RX14, "denied", "(I)Z"⟩
abbrev cX14_done : ByteArray := prog_14_method_5_code
def yX14_done : MethodName := ⟨RX14, "done", "(I)I"⟩
abbrev cX14_granted : ByteArray := prog_14_method_6_code
def yX14_granted : MethodName := ⟨RX14, "granted", "()Z"⟩
abbrev cX14_in : ByteArray := prog_14_method_7_code
def yX14_in : MethodName := ⟨RX14, "in", "(III)Z"⟩
abbrev cX14_will : ByteArray := prog_14_method_8_code
def yX14_will : MethodName := ⟨RX14, "will", "()I"⟩
abbrev cX14_stop : ByteArray := prog_14_method_9_code
def yX14_stop : MethodName := ⟨RX14, "stop", "(I)LAlmsHouseModel$Stop;"⟩
abbrev cX14_byteAt : ByteArray := prog_14_method_10_code
def yX14_byteAt : MethodName := ⟨RX14, "byteAt", "(I)I"⟩
abbrev cX14_isLetter : ByteArray := prog_14_method_11_code
def yX14_isLetter : MethodName := ⟨RX14, "isLetter", "(I)Z"⟩
abbrev cX14_isDigit : ByteArray := prog_14_method_12_code
def yX14_isDigit : MethodName := ⟨RX14, "isDigit", "(I)Z"⟩
abbrev cX14_wordOf : ByteArray := prog_14_method_13_code
def yX14_wordOf : MethodName := ⟨RX14, "wordOf", "(Ljava/lang/String;)J"⟩
abbrev cX14_next : ByteArray := prog_14_method_14_code
def yX14_next : MethodName := ⟨RX14, "next", "()V"⟩
abbrev cX14_isWord : ByteArray := prog_14_method_15_code
def yX14_isWord : MethodName := ⟨RX14, "isWord", "(Ljava/lang/String;)Z"⟩
abbrev cX14_is : ByteArray := prog_14_method_16_code
def yX14_is : MethodName := ⟨RX14, "is", "(I)Z"⟩
abbrev cX14_nameHere : ByteArray := prog_14_method_17_code
def yX14_nameHere : MethodName := ⟨RX14, "nameHere", "()I"⟩
abbrev cX14_reads : ByteArray := prog_14_method_18_code
def yX14_reads : MethodName := ⟨RX14, "reads", "(LAlmsHouseModel$Scheme;)V"⟩
abbrev cX14_readAny : ByteArray := prog_14_method_19_code
def yX14_readAny : MethodName := ⟨RX14, "readAny", "(LAlmsHouseModel$Scheme;)V"⟩
abbrev cX14_readAll : ByteArray := prog_14_method_20_code
def yX14_readAll : MethodName := ⟨RX14, "readAll", "(LAlmsHouseModel$Scheme;)V"⟩
abbrev cX14_readOne : ByteArray := prog_14_method_21_code
def yX14_readOne : MethodName := ⟨RX14, "readOne", "(LAlmsHouseModel$Scheme;)V"⟩
abbrev cX14_readSum : ByteArray := prog_14_method_22_code
def yX14_readSum : MethodName := ⟨RX14, "readSum", "(LAlmsHouseModel$Scheme;I)V"⟩
abbrev cX14_feed : ByteArray := prog_14_method_23_code
def yX14_feed : MethodName := ⟨RX14, "feed", "(IIIII)I"⟩
abbrev cX14_isDay : ByteArray := prog_14_method_24_code
def yX14_isDay : MethodName := ⟨RX14, "isDay", "(I)Z"⟩
abbrev cX14_isWill : ByteArray := prog_14_method_25_code
def yX14_isWill : MethodName := ⟨RX14, "isWill", "(I)Z"⟩
abbrev cX14_scheme : ByteArray := prog_14_method_26_code
def yX14_scheme : MethodName := ⟨RX14, "scheme", "(III)I"⟩
abbrev cX14_fault : ByteArray := prog_14_method_27_code
def yX14_fault : MethodName := ⟨RX14, "fault", "()I"⟩
abbrev cX14_where : ByteArray := prog_14_method_28_code
def yX14_where : MethodName := ⟨RX14, "where", "()I"⟩
abbrev cX14_finds : ByteArray := prog_14_method_29_code
def yX14_finds : MethodName := ⟨RX14, "finds", "(III)Z"⟩
abbrev cX14_clause : ByteArray := prog_14_method_30_code
def yX14_clause : MethodName := ⟨RX14, "clause", "(III)I"⟩
abbrev cX14_clausesOf : ByteArray := prog_14_method_31_code
def yX14_clausesOf : MethodName := ⟨RX14, "clausesOf", "(II)I"⟩
abbrev cX14_clauses : ByteArray := prog_14_method_32_code
def yX14_clauses : MethodName := ⟨RX14, "clauses", "(II)I"⟩
abbrev cX14_isPerson : ByteArray := prog_14_method_33_code
def yX14_isPerson : MethodName := ⟨RX14, "isPerson", "(I)Z"⟩
abbrev cX14_person : ByteArray := prog_14_method_34_code
def yX14_person : MethodName := ⟨RX14, "person", "(IIZ)I"⟩
abbrev cX14_means : ByteArray := prog_14_method_35_code
def yX14_means : MethodName := ⟨RX14, "means", "(III)I"⟩
abbrev cX14_factOf : ByteArray := prog_14_method_36_code
def yX14_factOf : MethodName := ⟨RX14, "factOf", "(III)I"⟩
abbrev cX14_fact : ByteArray := prog_14_method_37_code
def yX14_fact : MethodName := ⟨RX14, "fact", "(III)I"⟩
abbrev cX14_holds : ByteArray := prog_14_method_38_code
def yX14_holds : MethodName := ⟨RX14, "holds", "(II)Z"⟩
abbrev cX14_barsOf : ByteArray := prog_14_method_39_code
def yX14_barsOf : MethodName := ⟨RX14, "barsOf", "(III)I"⟩
abbrev cX14_mayCome : ByteArray := prog_14_method_40_code
def yX14_mayCome : MethodName := ⟨RX14, "mayCome", "(III)Z"⟩
abbrev cX14_isAsked : ByteArray := prog_14_method_41_code
def yX14_isAsked : MethodName := ⟨RX14, "isAsked", "(III)Z"⟩
abbrev cX14_may : ByteArray := prog_14_method_42_code
def yX14_may : MethodName := ⟨RX14, "may", "(III)I"⟩
abbrev cX14_bars : ByteArray := prog_14_method_43_code
def yX14_bars : MethodName := ⟨RX14, "bars", "(III)I"⟩
abbrev cX14_orderOf : ByteArray := prog_14_method_44_code
def yX14_orderOf : MethodName := ⟨RX14, "orderOf", "(III)I"⟩
abbrev cX14_order : ByteArray := prog_14_method_45_code
def yX14_order : MethodName := ⟨RX14, "order", "(III)I"⟩
abbrev cX14_list : ByteArray := prog_14_method_46_code
def yX14_list : MethodName := ⟨RX14, "list", "(II)I"⟩
abbrev cX14_nextOf : ByteArray := prog_14_method_47_code
def yX14_nextOf : MethodName := ⟨RX14, "nextOf", "(II)I"⟩
abbrev cX14_next_ : ByteArray := prog_14_method_48_code
def yX14_next_ : MethodName := ⟨RX14, "next", "(II)I"⟩
abbrev cX14_room : ByteArray := prog_14_method_49_code
def yX14_room : MethodName := ⟨RX14, "room", "(I)I"⟩
abbrev cX14_trustee : ByteArray := prog_14_method_50_code
def yX14_trustee : MethodName := ⟨RX14, "trustee", "()I"⟩
abbrev cX14_away : ByteArray := prog_14_method_51_code
def yX14_away : MethodName := ⟨RX14, "away", "(IZ)Z"⟩
abbrev cX14_isRoom : ByteArray := prog_14_method_52_code
def yX14_isRoom : MethodName := ⟨RX14, "isRoom", "(I)Z"⟩
abbrev cX14_fill : ByteArray := prog_14_method_53_code
def yX14_fill : MethodName := ⟨RX14, "fill", "(I)I"⟩
abbrev cX14_ends : ByteArray := prog_14_method_54_code
def yX14_ends : MethodName := ⟨RX14, "ends", "(I)I"⟩
abbrev cX14_leave : ByteArray := prog_14_method_55_code
def yX14_leave : MethodName := ⟨RX14, "leave", "(I)I"⟩
abbrev cX14_dies : ByteArray := prog_14_method_56_code
def yX14_dies : MethodName := ⟨RX14, "dies", "(I)Z"⟩
abbrev cX14_roomOf : ByteArray := prog_14_method_57_code
def yX14_roomOf : MethodName := ⟨RX14, "roomOf", "(II)I"⟩
abbrev cX14_had : ByteArray := prog_14_method_58_code
def yX14_had : MethodName := ⟨RX14, "had", "(II)I"⟩
abbrev cX14_land : ByteArray := prog_14_method_59_code
def yX14_land : MethodName := ⟨RX14, "land", "(III)I"⟩
abbrev cX14_dole : ByteArray := prog_14_method_60_code
def yX14_dole : MethodName := ⟨RX14, "dole", "(I)Z"⟩
abbrev cX14_day : ByteArray := prog_14_method_61_code
def yX14_day : MethodName := ⟨RX14, "day", "()V"⟩
abbrev cX14_pass : ByteArray := prog_14_method_62_code
def yX14_pass : MethodName := ⟨RX14, "pass", "(I)I"⟩
abbrev cX14_owed : ByteArray := prog_14_method_63_code
def yX14_owed : MethodName := ⟨RX14, "owed", "(I)I"⟩
abbrev cX14_got : ByteArray := prog_14_method_64_code
def yX14_got : MethodName := ⟨RX14, "got", "(I)I"⟩
abbrev cX14_count : ByteArray := prog_14_method_65_code
def yX14_count : MethodName := ⟨RX14, "count", "(I)I"⟩
abbrev cX14_trouble : ByteArray := prog_14_method_66_code
def yX14_trouble : MethodName := ⟨RX14, "trouble", "()I"⟩
def RJx145de : String := "java/io/Serializable"
def TJx145de : u_T := fun k => match k with
  | _ => ("", "", "", false)
def tyJx145de : Nat → FieldType := fun k => match k with
  | _ => .int
abbrev wsJx145de0 : List Cond := u_ws RJx145de TJx145de 0
theorem nmJx145de : ∀ a, a < 0 → ∀ b, b < 0 → a ≠ b → (TJx145de a).2.1 ≠ (TJx145de b).2.1 := by decide +kernel
theorem tyJx145de_ok : ∀ k, k < 0 → parseFieldDescriptor (TJx145de k).2.2.1 = some (tyJx145de k) := by decide +kernel
def RJx9f9b0 : String := "java/lang/CharSequence"
def TJx9f9b0 : u_T := fun k => match k with
  | _ => ("", "", "", false)
def tyJx9f9b0 : Nat → FieldType := fun k => match k with
  | _ => .int
abbrev wsJx9f9b00 : List Cond := u_ws RJx9f9b0 TJx9f9b0 0
theorem nmJx9f9b0 : ∀ a, a < 0 → ∀ b, b < 0 → a ≠ b → (TJx9f9b0 a).2.1 ≠ (TJx9f9b0 b).2.1 := by decide +kernel
theorem tyJx9f9b0_ok : ∀ k, k < 0 → parseFieldDescriptor (TJx9f9b0 k).2.2.1 = some (tyJx9f9b0 k) := by decide +kernel
def RJx8e188 : String := "java/lang/Cloneable"
def TJx8e188 : u_T := fun k => match k with
  | _ => ("", "", "", false)
def tyJx8e188 : Nat → FieldType := fun k => match k with
  | _ => .int
abbrev wsJx8e1880 : List Cond := u_ws RJx8e188 TJx8e188 0
theorem nmJx8e188 : ∀ a, a < 0 → ∀ b, b < 0 → a ≠ b → (TJx8e188 a).2.1 ≠ (TJx8e188 b).2.1 := by decide +kernel
theorem tyJx8e188_ok : ∀ k, k < 0 → parseFieldDescriptor (TJx8e188 k).2.2.1 = some (tyJx8e188 k) := by decide +kernel
def RJxb160c : String := "java/lang/Comparable"
def TJxb160c : u_T := fun k => match k with
  | _ => ("", "", "", false)
def tyJxb160c : Nat → FieldType := fun k => match k with
  | _ => .int
abbrev wsJxb160c0 : List Cond := u_ws RJxb160c TJxb160c 0
theorem nmJxb160c : ∀ a, a < 0 → ∀ b, b < 0 → a ≠ b → (TJxb160c a).2.1 ≠ (TJxb160c b).2.1 := by decide +kernel
theorem tyJxb160c_ok : ∀ k, k < 0 → parseFieldDescriptor (TJxb160c k).2.2.1 = some (tyJxb160c k) := by decide +kernel
def RJxab1ab : String := "java/lang/Iterable"
def TJxab1ab : u_T := fun k => match k with
  | _ => ("", "", "", false)
def tyJxab1ab : Nat → FieldType := fun k => match k with
  | _ => .int
abbrev wsJxab1ab0 : List Cond := u_ws RJxab1ab TJxab1ab 0
theorem nmJxab1ab : ∀ a, a < 0 → ∀ b, b < 0 → a ≠ b → (TJxab1ab a).2.1 ≠ (TJxab1ab b).2.1 := by decide +kernel
theorem tyJxab1ab_ok : ∀ k, k < 0 → parseFieldDescriptor (TJxab1ab k).2.2.1 = some (tyJxab1ab k) := by decide +kernel
def RJ9 : String := "java/lang/Math"
def TJ9 : u_T := fun k => match k with
  | _ => ("", "", "", false)
def tyJ9 : Nat → FieldType := fun k => match k with
  | _ => .int
abbrev wsJ90 : List Cond := u_ws RJ9 TJ9 0
theorem nmJ9 : ∀ a, a < 0 → ∀ b, b < 0 → a ≠ b → (TJ9 a).2.1 ≠ (TJ9 b).2.1 := by decide +kernel
theorem tyJ9_ok : ∀ k, k < 0 → parseFieldDescriptor (TJ9 k).2.2.1 = some (tyJ9 k) := by decide +kernel
abbrev cJ9_max_7cf53 : ByteArray := prog_23_method_65_code
def yJ9_max_7cf53 : MethodName := ⟨RJ9, "max", "(II)I"⟩
abbrev cJ9_min_7cf53 : ByteArray := prog_23_method_69_code
def yJ9_min_7cf53 : MethodName := ⟨RJ9, "min", "(II)I"⟩
abbrev cJ9_min_f86c9 : ByteArray := prog_23_method_70_code
def yJ9_min_f86c9 : MethodName := ⟨RJ9, "min", "(JJ)J"⟩
def RJ0 : String := "java/lang/String"
def TJ0 : u_T := fun k => match k with
  | _ => ("", "", "", false)
def tyJ0 : Nat → FieldType := fun k => match k with
  | _ => .int
abbrev wsJ00 : List Cond := u_ws RJ0 TJ0 0
theorem nmJ0 : ∀ a, a < 0 → ∀ b, b < 0 → a ≠ b → (TJ0 a).2.1 ≠ (TJ0 b).2.1 := by decide +kernel
theorem tyJ0_ok : ∀ k, k < 0 → parseFieldDescriptor (TJ0 k).2.2.1 = some (tyJ0 k) := by decide +kernel
abbrev cJ0_length_8abf5 : ByteArray := prog_25_method_54_code
def yJ0_length_8abf5 : MethodName := ⟨RJ0, "length", "()I"⟩
abbrev cJ0_charAt_5068e : ByteArray := prog_25_method_56_code
def yJ0_charAt_5068e : MethodName := ⟨RJ0, "charAt", "(I)C"⟩
abbrev cJ0_coder_7d493 : ByteArray := prog_25_method_152_code
def yJ0_coder_7d493 : MethodName := ⟨RJ0, "coder", "()B"⟩
abbrev cJ0_isLatin1_aae02 : ByteArray := prog_25_method_154_code
def yJ0_isLatin1_aae02 : MethodName := ⟨RJ0, "isLatin1", "()Z"⟩
abbrev cJ0_checkIndex_df160 : ByteArray := prog_25_method_155_code
def yJ0_checkIndex_df160 : MethodName := ⟨RJ0, "checkIndex", "(II)V"⟩
def RJ1 : String := "java/lang/StringLatin1"
def TJ1 : u_T := fun k => match k with
  | _ => ("", "", "", false)
def tyJ1 : Nat → FieldType := fun k => match k with
  | _ => .int
abbrev wsJ10 : List Cond := u_ws RJ1 TJ1 0
theorem nmJ1 : ∀ a, a < 0 → ∀ b, b < 0 → a ≠ b → (TJ1 a).2.1 ≠ (TJ1 b).2.1 := by decide +kernel
theorem tyJ1_ok : ∀ k, k < 0 → parseFieldDescriptor (TJ1 k).2.2.1 = some (tyJ1 k) := by decide +kernel
abbrev cJ1_charAt_3b067 : ByteArray := prog_26_method_2_code
def yJ1_charAt_3b067 : MethodName := ⟨RJ1, "charAt", "([BI)C"⟩
def RJ2 : String := "java/lang/StringUTF16"
def TJ2 : u_T := fun k => match k with
  | _ => ("", "", "", false)
def tyJ2 : Nat → FieldType := fun k => match k with
  | _ => .int
abbrev wsJ20 : List Cond := u_ws RJ2 TJ2 0
theorem nmJ2 : ∀ a, a < 0 → ∀ b, b < 0 → a ≠ b → (TJ2 a).2.1 ≠ (TJ2 b).2.1 := by decide +kernel
theorem tyJ2_ok : ∀ k, k < 0 → parseFieldDescriptor (TJ2 k).2.2.1 = some (tyJ2 k) := by decide +kernel
abbrev cJ2_getChar_3b067 : ByteArray := prog_27_method_5_code
def yJ2_getChar_3b067 : MethodName := ⟨RJ2, "getChar", "([BI)C"⟩
abbrev cJ2_length_9d52b : ByteArray := prog_27_method_6_code
def yJ2_length_9d52b : MethodName := ⟨RJ2, "length", "([B)I"⟩
abbrev cJ2_charAt_3b067 : ByteArray := prog_27_method_83_code
def yJ2_charAt_3b067 : MethodName := ⟨RJ2, "charAt", "([BI)C"⟩
abbrev cJ2_checkIndex_2214a : ByteArray := prog_27_method_91_code
def yJ2_checkIndex_2214a : MethodName := ⟨RJ2, "checkIndex", "(I[B)V"⟩
def RJ10 : String := "java/lang/System"
def TJ10 : u_T := fun k => match k with
  | _ => ("", "", "", false)
def tyJ10 : Nat → FieldType := fun k => match k with
  | _ => .int
abbrev wsJ100 : List Cond := u_ws RJ10 TJ10 0
theorem nmJ10 : ∀ a, a < 0 → ∀ b, b < 0 → a ≠ b → (TJ10 a).2.1 ≠ (TJ10 b).2.1 := by decide +kernel
theorem tyJ10_ok : ∀ k, k < 0 → parseFieldDescriptor (TJ10 k).2.2.1 = some (tyJ10 k) := by decide +kernel
def RJxfd54e : String := "java/lang/constant/Constable"
def TJxfd54e : u_T := fun k => match k with
  | _ => ("", "", "", false)
def tyJxfd54e : Nat → FieldType := fun k => match k with
  | _ => .int
abbrev wsJxfd54e0 : List Cond := u_ws RJxfd54e TJxfd54e 0
theorem nmJxfd54e : ∀ a, a < 0 → ∀ b, b < 0 → a ≠ b → (TJxfd54e a).2.1 ≠ (TJxfd54e b).2.1 := by decide +kernel
theorem tyJxfd54e_ok : ∀ k, k < 0 → parseFieldDescriptor (TJxfd54e k).2.2.1 = some (tyJxfd54e k) := by decide +kernel
def RJx3cf43 : String := "java/lang/constant/ConstantDesc"
def TJx3cf43 : u_T := fun k => match k with
  | _ => ("", "", "", false)
def tyJx3cf43 : Nat → FieldType := fun k => match k with
  | _ => .int
abbrev wsJx3cf430 : List Cond := u_ws RJx3cf43 TJx3cf43 0
theorem nmJx3cf43 : ∀ a, a < 0 → ∀ b, b < 0 → a ≠ b → (TJx3cf43 a).2.1 ≠ (TJx3cf43 b).2.1 := by decide +kernel
theorem tyJx3cf43_ok : ∀ k, k < 0 → parseFieldDescriptor (TJx3cf43 k).2.2.1 = some (tyJx3cf43 k) := by decide +kernel
def RJxa1e45 : String := "java/util/AbstractCollection"
def TJxa1e45 : u_T := fun k => match k with
  | _ => ("", "", "", false)
def tyJxa1e45 : Nat → FieldType := fun k => match k with
  | _ => .int
abbrev wsJxa1e450 : List Cond := u_ws RJxa1e45 TJxa1e45 0
theorem nmJxa1e45 : ∀ a, a < 0 → ∀ b, b < 0 → a ≠ b → (TJxa1e45 a).2.1 ≠ (TJxa1e45 b).2.1 := by decide +kernel
theorem tyJxa1e45_ok : ∀ k, k < 0 → parseFieldDescriptor (TJxa1e45 k).2.2.1 = some (tyJxa1e45 k) := by decide +kernel
abbrev cJxa1e45_init_da8c8 : ByteArray := prog_32_method_1_code
def yJxa1e45_init_da8c8 : MethodName := ⟨RJxa1e45, "<init>", "()V"⟩
def RJxc12de : String := "java/util/AbstractList"
def TJxc12de : u_T := fun k => match k with
  | _ => ("", "", "", false)
def tyJxc12de : Nat → FieldType := fun k => match k with
  | _ => .int
abbrev wsJxc12de0 : List Cond := u_ws RJxc12de TJxc12de 0
theorem nmJxc12de : ∀ a, a < 0 → ∀ b, b < 0 → a ≠ b → (TJxc12de a).2.1 ≠ (TJxc12de b).2.1 := by decide +kernel
theorem tyJxc12de_ok : ∀ k, k < 0 → parseFieldDescriptor (TJxc12de k).2.2.1 = some (tyJxc12de k) := by decide +kernel
abbrev cJxc12de_init_da8c8 : ByteArray := prog_33_method_1_code
def yJxc12de_init_da8c8 : MethodName := ⟨RJxc12de, "<init>", "()V"⟩
def RJx4a65c : String := "java/util/ArrayList"
def TJx4a65c : u_T := fun k => match k with
  | 0 => ("java/util/AbstractList", "modCount", "I", false)
  | 1 => ("java/util/ArrayList", "elementData", "[Ljava/lang/Object;", false)
  | _ => ("java/util/ArrayList", "size", "I", false)
def tyJx4a65c : Nat → FieldType := fun k => match k with
  | 0 => .int
  | 1 => .array (.object "java/lang/Object")
  | _ => .int
abbrev wsJx4a65c0 : List Cond := u_ws RJx4a65c TJx4a65c 3
theorem nmJx4a65c : ∀ a, a < 3 → ∀ b, b < 3 → a ≠ b → (TJx4a65c a).2.1 ≠ (TJx4a65c b).2.1 := by decide +kernel
theorem tyJx4a65c_ok : ∀ k, k < 3 → parseFieldDescriptor (TJx4a65c k).2.2.1 = some (tyJx4a65c k) := by decide +kernel
abbrev cJx4a65c_init_da8c8 : ByteArray := prog_34_method_2_code
def yJx4a65c_init_da8c8 : MethodName := ⟨RJx4a65c, "<init>", "()V"⟩
abbrev cJx4a65c_grow_92f84 : ByteArray := prog_34_method_6_code
def yJx4a65c_grow_92f84 : MethodName := ⟨RJx4a65c, "grow", "(I)[Ljava/lang/Object;"⟩
abbrev cJx4a65c_grow_d5877 : ByteArray := prog_34_method_7_code
def yJx4a65c_grow_d5877 : MethodName := ⟨RJx4a65c, "grow", "()[Ljava/lang/Object;"⟩
abbrev cJx4a65c_size_8abf5 : ByteArray := prog_34_method_8_code
def yJx4a65c_size_8abf5 : MethodName := ⟨RJx4a65c, "size", "()I"⟩
abbrev cJx4a65c_elementData_915e3 : ByteArray := prog_34_method_18_code
def yJx4a65c_elementData_915e3 : MethodName := ⟨RJx4a65c, "elementData", "(I)Ljava/lang/Object;"⟩
abbrev cJx4a65c_get_915e3 : ByteArray := prog_34_method_20_code
def yJx4a65c_get_915e3 : MethodName := ⟨RJx4a65c, "get", "(I)Ljava/lang/Object;"⟩
abbrev cJx4a65c_add_72be8 : ByteArray := prog_34_method_24_code
def yJx4a65c_add_72be8 : MethodName := ⟨RJx4a65c, "add", "(Ljava/lang/Object;[Ljava/lang/Object;I)V"⟩
abbrev cJx4a65c_add_9ea2d : ByteArray := prog_34_method_25_code
def yJx4a65c_add_9ea2d : MethodName := ⟨RJx4a65c, "add", "(Ljava/lang/Object;)Z"⟩
def RJ7 : String := "java/util/Arrays"
def TJ7 : u_T := fun k => match k with
  | _ => ("", "", "", false)
def tyJ7 : Nat → FieldType := fun k => match k with
  | _ => .int
abbrev wsJ70 : List Cond := u_ws RJ7 TJ7 0
theorem nmJ7 : ∀ a, a < 0 → ∀ b, b < 0 → a ≠ b → (TJ7 a).2.1 ≠ (TJ7 b).2.1 := by decide +kernel
theorem tyJ7_ok : ∀ k, k < 0 → parseFieldDescriptor (TJ7 k).2.2.1 = some (tyJ7 k) := by decide +kernel
abbrev cJ7_copyOf_1904c : ByteArray := prog_35_method_119_code
def yJ7_copyOf_1904c : MethodName := ⟨RJ7, "copyOf", "([Ljava/lang/Object;I)[Ljava/lang/Object;"⟩
abbrev cJ7_copyOf_6403c : ByteArray := prog_35_method_120_code
def yJ7_copyOf_6403c : MethodName := ⟨RJ7, "copyOf", "([Ljava/lang/Object;ILjava/lang/Class;)[Ljava/lang/Object;"⟩
abbrev cJ7_checkLength_df160 : ByteArray := prog_35_method_131_code
def yJ7_checkLength_df160 : MethodName := ⟨RJ7, "checkLength", "(II)V"⟩
abbrev cJ7_copyOfRange_feecc : ByteArray := prog_35_method_136_code
def yJ7_copyOfRange_feecc : MethodName := ⟨RJ7, "copyOfRange", "([III)[I"⟩
abbrev cJ7_copyOfRangeInt_feecc : ByteArray := prog_35_method_137_code
def yJ7_copyOfRangeInt_feecc : MethodName := ⟨RJ7, "copyOfRangeInt", "([III)[I"⟩
def RJx5ef63 : String := "java/util/Collection"
def TJx5ef63 : u_T := fun k => match k with
  | _ => ("", "", "", false)
def tyJx5ef63 : Nat → FieldType := fun k => match k with
  | _ => .int
abbrev wsJx5ef630 : List Cond := u_ws RJx5ef63 TJx5ef63 0
theorem nmJx5ef63 : ∀ a, a < 0 → ∀ b, b < 0 → a ≠ b → (TJx5ef63 a).2.1 ≠ (TJx5ef63 b).2.1 := by decide +kernel
theorem tyJx5ef63_ok : ∀ k, k < 0 → parseFieldDescriptor (TJx5ef63 k).2.2.1 = some (tyJx5ef63 k) := by decide +kernel
def RJxbd725 : String := "java/util/List"
def TJxbd725 : u_T := fun k => match k with
  | _ => ("", "", "", false)
def tyJxbd725 : Nat → FieldType := fun k => match k with
  | _ => .int
abbrev wsJxbd7250 : List Cond := u_ws RJxbd725 TJxbd725 0
theorem nmJxbd725 : ∀ a, a < 0 → ∀ b, b < 0 → a ≠ b → (TJxbd725 a).2.1 ≠ (TJxbd725 b).2.1 := by decide +kernel
theorem tyJxbd725_ok : ∀ k, k < 0 → parseFieldDescriptor (TJxbd725 k).2.2.1 = some (tyJxbd725 k) := by decide +kernel
def RJ15 : String := "java/util/Objects"
def TJ15 : u_T := fun k => match k with
  | _ => ("", "", "", false)
def tyJ15 : Nat → FieldType := fun k => match k with
  | _ => .int
abbrev wsJ150 : List Cond := u_ws RJ15 TJ15 0
theorem nmJ15 : ∀ a, a < 0 → ∀ b, b < 0 → a ≠ b → (TJ15 a).2.1 ≠ (TJ15 b).2.1 := by decide +kernel
theorem tyJ15_ok : ∀ k, k < 0 → parseFieldDescriptor (TJ15 k).2.2.1 = some (tyJ15 k) := by decide +kernel
abbrev cJ15_checkIndex_7cf53 : ByteArray := prog_38_method_17_code
def yJ15_checkIndex_7cf53 : MethodName := ⟨RJ15, "checkIndex", "(II)I"⟩
def RJxf0a74 : String := "java/util/RandomAccess"
def TJxf0a74 : u_T := fun k => match k with
  | _ => ("", "", "", false)
def tyJxf0a74 : Nat → FieldType := fun k => match k with
  | _ => .int
abbrev wsJxf0a740 : List Cond := u_ws RJxf0a74 TJxf0a74 0
theorem nmJxf0a74 : ∀ a, a < 0 → ∀ b, b < 0 → a ≠ b → (TJxf0a74 a).2.1 ≠ (TJxf0a74 b).2.1 := by decide +kernel
theorem tyJxf0a74_ok : ∀ k, k < 0 → parseFieldDescriptor (TJxf0a74 k).2.2.1 = some (tyJxf0a74 k) := by decide +kernel
def RJxa66e6 : String := "java/util/SequencedCollection"
def TJxa66e6 : u_T := fun k => match k with
  | _ => ("", "", "", false)
def tyJxa66e6 : Nat → FieldType := fun k => match k with
  | _ => .int
abbrev wsJxa66e60 : List Cond := u_ws RJxa66e6 TJxa66e6 0
theorem nmJxa66e6 : ∀ a, a < 0 → ∀ b, b < 0 → a ≠ b → (TJxa66e6 a).2.1 ≠ (TJxa66e6 b).2.1 := by decide +kernel
theorem tyJxa66e6_ok : ∀ k, k < 0 → parseFieldDescriptor (TJxa66e6 k).2.2.1 = some (tyJxa66e6 k) := by decide +kernel
def RJ8 : String := "jdk/internal/util/ArraysSupport"
def TJ8 : u_T := fun k => match k with
  | _ => ("", "", "", false)
def tyJ8 : Nat → FieldType := fun k => match k with
  | _ => .int
abbrev wsJ80 : List Cond := u_ws RJ8 TJ8 0
theorem nmJ8 : ∀ a, a < 0 → ∀ b, b < 0 → a ≠ b → (TJ8 a).2.1 ≠ (TJ8 b).2.1 := by decide +kernel
theorem tyJ8_ok : ∀ k, k < 0 → parseFieldDescriptor (TJ8 k).2.2.1 = some (tyJ8 k) := by decide +kernel
abbrev cJ8_newLength_cabcc : ByteArray := prog_41_method_27_code
def yJ8_newLength_cabcc : MethodName := ⟨RJ8, "newLength", "(III)I"⟩
abbrev cJ8_hugeLength_7cf53 : ByteArray := prog_41_method_28_code
def yJ8_hugeLength_7cf53 : MethodName := ⟨RJ8, "hugeLength", "(II)I"⟩
def RJ3 : String := "jdk/internal/util/Preconditions"
def TJ3 : u_T := fun k => match k with
  | _ => ("", "", "", false)
def tyJ3 : Nat → FieldType := fun k => match k with
  | _ => .int
abbrev wsJ30 : List Cond := u_ws RJ3 TJ3 0
theorem nmJ3 : ∀ a, a < 0 → ∀ b, b < 0 → a ≠ b → (TJ3 a).2.1 ≠ (TJ3 b).2.1 := by decide +kernel
theorem tyJ3_ok : ∀ k, k < 0 → parseFieldDescriptor (TJ3 k).2.2.1 = some (tyJ3 k) := by decide +kernel
abbrev cJ3_checkIndex_8e157 : ByteArray := prog_42_method_11_code
def yJ3_checkIndex_8e157 : MethodName := ⟨RJ3, "checkIndex", "(IILjava/util/function/BiFunction;)I"⟩
def RL : String := "AlmsHouseLaw"
abbrev cL_law : ByteArray := code
def yL_law : MethodName := ⟨RL, "law", "([I)Z"⟩
abbrev vwCl : List vw_C := [(RJx4a65c, TJx4a65c, 3), (RX0, TX0, 6), (RX1, TX1, 2), (RX2, TX2, 3), (RX3, TX3, 11), (RX4, TX4, 14), (RX5, TX5, 3), (RX6, TX6, 1), (RX7, TX7, 4), (RX8, TX8, 7), (RX9, TX9, 3), (RX10, TX10, 4), (RX11, TX11, 17), (RX12, TX12, 14), (RX13, TX13, 8), (RX14, TX14, 55)]
end
section
theorem dX0_init_0 : decode cX0_init 0 = .ok (.aload_n 0, 1) := by decide +kernel
theorem dX0_init_1 : decode cX0_init 1 = .ok (.invokespecial 3, 3) := by decide +kernel
theorem dX0_init_4 : decode cX0_init 4 = .ok (.aload_n 0, 1) := by decide +kernel
theorem dX0_init_5 : decode cX0_init 5 = .ok (.iload_n 1, 1) := by decide +kernel
theorem dX0_init_6 : decode cX0_init 6 = .ok (.putfield 9, 3) := by decide +kernel
theorem dX0_init_9 : decode cX0_init 9 = .ok (.aload_n 0, 1) := by decide +kernel
theorem dX0_init_10 : decode cX0_init 10 = .ok (.iload_n 2, 1) := by decide +kernel
theorem dX0_init_11 : decode cX0_init 11 = .ok (.putfield 15, 3) := by decide +kernel
theorem dX0_init_14 : decode cX0_init 14 = .ok (.aload_n 0, 1) := by decide +kernel
theorem dX0_init_15 : decode cX0_init 15 = .ok (.iload_n 3, 1) := by decide +kernel
theorem dX0_init_16 : decode cX0_init 16 = .ok (.putfield 18, 3) := by decide +kernel
theorem dX0_init_19 : decode cX0_init 19 = .ok (.aload_n 0, 1) := by decide +kernel
theorem dX0_init_20 : decode cX0_init 20 = .ok (.iload 4, 2) := by decide +kernel
theorem dX0_init_22 : decode cX0_init 22 = .ok (.putfield 21, 3) := by decide +kernel
theorem dX0_init_25 : decode cX0_init 25 = .ok (.aload_n 0, 1) := by decide +kernel
theorem dX0_init_26 : decode cX0_init 26 = .ok (.iload 5, 2) := by decide +kernel
theorem dX0_init_28 : decode cX0_init 28 = .ok (.putfield 24, 3) := by decide +kernel
theorem dX0_init_31 : decode cX0_init 31 = .ok (.aload_n 0, 1) := by decide +kernel
theorem dX0_init_32 : decode cX0_init 32 = .ok (.aload 6, 2) := by decide +kernel
theorem dX0_init_34 : decode cX0_init 34 = .ok (.putfield 27, 3) := by decide +kernel
theorem dX0_init_37 : decode cX0_init 37 = .ok (.return_, 1) := by decide +kernel
theorem dX0_step_0 : decode cX0_step 0 = .ok (.iload_n 2, 1) := by decide +kernel
theorem dX0_step_1 : decode cX0_step 1 = .ok (.iconst 3, 1) := by decide +kernel
theorem dX0_step_2 : decode cX0_step 2 = .ok (.ishl, 1) := by decide +kernel
theorem dX0_step_3 : decode cX0_step 3 = .ok (.iload_n 1, 1) := by decide +kernel
theorem dX0_step_4 : decode cX0_step 4 = .ok (.ior, 1) := by decide +kernel
theorem dX0_step_5 : decode cX0_step 5 = .ok (.bipush 7, 2) := by decide +kernel
theorem dX0_step_7 : decode cX0_step 7 = .ok (.ishl, 1) := by decide +kernel
theorem dX0_step_8 : decode cX0_step 8 = .ok (.iload_n 0, 1) := by decide +kernel
theorem dX0_step_9 : decode cX0_step 9 = .ok (.ior, 1) := by decide +kernel
theorem dX0_step_10 : decode cX0_step 10 = .ok (.ireturn, 1) := by decide +kernel
theorem dX0_holdsFor_0 : decode cX0_holdsFor 0 = .ok (.iconst 0, 1) := by decide +kernel
theorem dX0_holdsFor_1 : decode cX0_holdsFor 1 = .ok (.istore_n 3, 1) := by decide +kernel
theorem dX0_holdsFor_2 : decode cX0_holdsFor 2 = .ok (.iconst 0, 1) := by decide +kernel
theorem dX0_holdsFor_3 : decode cX0_holdsFor 3 = .ok (.istore 4, 2) := by decide +kernel
theorem dX0_holdsFor_5 : decode cX0_holdsFor 5 = .ok (.iload 4, 2) := by decide +kernel
theorem dX0_holdsFor_7 : decode cX0_holdsFor 7 = .ok (.aload_n 0, 1) := by decide +kernel
theorem dX0_holdsFor_8 : decode cX0_holdsFor 8 = .ok (.getfield 27, 3) := by decide +kernel
theorem dX0_holdsFor_11 : decode cX0_holdsFor 11 = .ok (.arraylength, 1) := by decide +kernel
theorem dX0_holdsFor_12 : decode cX0_holdsFor 12 = .ok (.if_icmp .ge 119, 3) := by decide +kernel
theorem dX0_holdsFor_15 : decode cX0_holdsFor 15 = .ok (.aload_n 0, 1) := by decide +kernel
theorem dX0_holdsFor_16 : decode cX0_holdsFor 16 = .ok (.getfield 27, 3) := by decide +kernel
theorem dX0_holdsFor_19 : decode cX0_holdsFor 19 = .ok (.iload 4, 2) := by decide +kernel
theorem dX0_holdsFor_21 : decode cX0_holdsFor 21 = .ok (.iaload, 1) := by decide +kernel
theorem dX0_holdsFor_22 : decode cX0_holdsFor 22 = .ok (.invokestatic 31, 3) := by decide +kernel
theorem dX0_holdsFor_25 : decode cX0_holdsFor 25 = .ok (.istore 5, 2) := by decide +kernel
theorem dX0_holdsFor_27 : decode cX0_holdsFor 27 = .ok (.iload 5, 2) := by decide +kernel
theorem dX0_holdsFor_29 : decode cX0_holdsFor 29 = .ok (.bipush 10, 2) := by decide +kernel
theorem dX0_holdsFor_31 : decode cX0_holdsFor 31 = .ok (.if_icmp .ne 10, 3) := by decide +kernel
theorem dX0_holdsFor_34 : decode cX0_holdsFor 34 = .ok (.iload_n 3, 1) := by decide +kernel
theorem dX0_holdsFor_35 : decode cX0_holdsFor 35 = .ok (.iconst 1, 1) := by decide +kernel
theorem dX0_holdsFor_36 : decode cX0_holdsFor 36 = .ok (.ixor, 1) := by decide +kernel
theorem dX0_holdsFor_37 : decode cX0_holdsFor 37 = .ok (.istore_n 3, 1) := by decide +kernel
theorem dX0_holdsFor_38 : decode cX0_holdsFor 38 = .ok (.goto 87, 3) := by decide +kernel
theorem dX0_holdsFor_41 : decode cX0_holdsFor 41 = .ok (.iload 5, 2) := by decide +kernel
theorem dX0_holdsFor_43 : decode cX0_holdsFor 43 = .ok (.bipush 9, 2) := by decide +kernel
theorem dX0_holdsFor_45 : decode cX0_holdsFor 45 = .ok (.if_icmp .ne 15, 3) := by decide +kernel
theorem dX0_holdsFor_48 : decode cX0_holdsFor 48 = .ok (.iload_n 3, 1) := by decide +kernel
theorem dX0_holdsFor_49 : decode cX0_holdsFor 49 = .ok (.iconst 1, 1) := by decide +kernel
theorem dX0_holdsFor_50 : decode cX0_holdsFor 50 = .ok (.ishr, 1) := by decide +kernel
theorem dX0_holdsFor_51 : decode cX0_holdsFor 51 = .ok (.iload_n 3, 1) := by decide +kernel
theorem dX0_holdsFor_52 : decode cX0_holdsFor 52 = .ok (.bipush (-2), 2) := by decide +kernel
theorem dX0_holdsFor_54 : decode cX0_holdsFor 54 = .ok (.ior, 1) := by decide +kernel
theorem dX0_holdsFor_55 : decode cX0_holdsFor 55 = .ok (.iand, 1) := by decide +kernel
theorem dX0_holdsFor_56 : decode cX0_holdsFor 56 = .ok (.istore_n 3, 1) := by decide +kernel
theorem dX0_holdsFor_57 : decode cX0_holdsFor 57 = .ok (.goto 68, 3) := by decide +kernel
theorem dX0_holdsFor_60 : decode cX0_holdsFor 60 = .ok (.iload 5, 2) := by decide +kernel
theorem dX0_holdsFor_62 : decode cX0_holdsFor 62 = .ok (.bipush 8, 2) := by decide +kernel
theorem dX0_holdsFor_64 : decode cX0_holdsFor 64 = .ok (.if_icmp .ne 14, 3) := by decide +kernel
theorem dX0_holdsFor_67 : decode cX0_holdsFor 67 = .ok (.iload_n 3, 1) := by decide +kernel
theorem dX0_holdsFor_68 : decode cX0_holdsFor 68 = .ok (.iconst 1, 1) := by decide +kernel
theorem dX0_holdsFor_69 : decode cX0_holdsFor 69 = .ok (.ishr, 1) := by decide +kernel
theorem dX0_holdsFor_70 : decode cX0_holdsFor 70 = .ok (.iload_n 3, 1) := by decide +kernel
theorem dX0_holdsFor_71 : decode cX0_holdsFor 71 = .ok (.iconst 1, 1) := by decide +kernel
theorem dX0_holdsFor_72 : decode cX0_holdsFor 72 = .ok (.iand, 1) := by decide +kernel
theorem dX0_holdsFor_73 : decode cX0_holdsFor 73 = .ok (.ior, 1) := by decide +kernel
theorem dX0_holdsFor_74 : decode cX0_holdsFor 74 = .ok (.istore_n 3, 1) := by decide +kernel
theorem dX0_holdsFor_75 : decode cX0_holdsFor 75 = .ok (.goto 50, 3) := by decide +kernel
theorem dX0_holdsFor_78 : decode cX0_holdsFor 78 = .ok (.aload_n 1, 1) := by decide +kernel
theorem dX0_holdsFor_79 : decode cX0_holdsFor 79 = .ok (.aload_n 0, 1) := by decide +kernel
theorem dX0_holdsFor_80 : decode cX0_holdsFor 80 = .ok (.getfield 27, 3) := by decide +kernel
theorem dX0_holdsFor_83 : decode cX0_holdsFor 83 = .ok (.iload 4, 2) := by decide +kernel
theorem dX0_holdsFor_85 : decode cX0_holdsFor 85 = .ok (.iaload, 1) := by decide +kernel
theorem dX0_holdsFor_86 : decode cX0_holdsFor 86 = .ok (.invokestatic 35, 3) := by decide +kernel
theorem dX0_holdsFor_89 : decode cX0_holdsFor 89 = .ok (.iload_n 2, 1) := by decide +kernel
theorem dX0_holdsFor_90 : decode cX0_holdsFor 90 = .ok (.invokevirtual 38, 3) := by decide +kernel
theorem dX0_holdsFor_93 : decode cX0_holdsFor 93 = .ok (.istore 6, 2) := by decide +kernel
theorem dX0_holdsFor_95 : decode cX0_holdsFor 95 = .ok (.iload_n 3, 1) := by decide +kernel
theorem dX0_holdsFor_96 : decode cX0_holdsFor 96 = .ok (.iconst 1, 1) := by decide +kernel
theorem dX0_holdsFor_97 : decode cX0_holdsFor 97 = .ok (.ishl, 1) := by decide +kernel
theorem dX0_holdsFor_98 : decode cX0_holdsFor 98 = .ok (.iload 6, 2) := by decide +kernel
theorem dX0_holdsFor_100 : decode cX0_holdsFor 100 = .ok (.iload 5, 2) := by decide +kernel
theorem dX0_holdsFor_102 : decode cX0_holdsFor 102 = .ok (.aload_n 0, 1) := by decide +kernel
theorem dX0_holdsFor_103 : decode cX0_holdsFor 103 = .ok (.getfield 27, 3) := by decide +kernel
theorem dX0_holdsFor_106 : decode cX0_holdsFor 106 = .ok (.iload 4, 2) := by decide +kernel
theorem dX0_holdsFor_108 : decode cX0_holdsFor 108 = .ok (.iaload, 1) := by decide +kernel
theorem dX0_holdsFor_109 : decode cX0_holdsFor 109 = .ok (.invokestatic 44, 3) := by decide +kernel
theorem dX0_holdsFor_112 : decode cX0_holdsFor 112 = .ok (.invokestatic 47, 3) := by decide +kernel
theorem dX0_holdsFor_115 : decode cX0_holdsFor 115 = .ok (.ifCond .eq 7, 3) := by decide +kernel
theorem dX0_holdsFor_118 : decode cX0_holdsFor 118 = .ok (.iconst 1, 1) := by decide +kernel
theorem dX0_holdsFor_119 : decode cX0_holdsFor 119 = .ok (.goto 4, 3) := by decide +kernel
theorem dX0_holdsFor_122 : decode cX0_holdsFor 122 = .ok (.iconst 0, 1) := by decide +kernel
theorem dX0_holdsFor_123 : decode cX0_holdsFor 123 = .ok (.ior, 1) := by decide +kernel
theorem dX0_holdsFor_124 : decode cX0_holdsFor 124 = .ok (.istore_n 3, 1) := by decide +kernel
theorem dX0_holdsFor_125 : decode cX0_holdsFor 125 = .ok (.iinc 4 1, 3) := by decide +kernel
theorem dX0_holdsFor_128 : decode cX0_holdsFor 128 = .ok (.goto (-123), 3) := by decide +kernel
theorem dX0_holdsFor_131 : decode cX0_holdsFor 131 = .ok (.iload_n 3, 1) := by decide +kernel
theorem dX0_holdsFor_132 : decode cX0_holdsFor 132 = .ok (.iconst 1, 1) := by decide +kernel
theorem dX0_holdsFor_133 : decode cX0_holdsFor 133 = .ok (.iand, 1) := by decide +kernel
theorem dX0_holdsFor_134 : decode cX0_holdsFor 134 = .ok (.iconst 1, 1) := by decide +kernel
theorem dX0_holdsFor_135 : decode cX0_holdsFor 135 = .ok (.if_icmp .ne 7, 3) := by decide +kernel
theorem dX0_holdsFor_138 : decode cX0_holdsFor 138 = .ok (.iconst 1, 1) := by decide +kernel
theorem dX0_holdsFor_139 : decode cX0_holdsFor 139 = .ok (.goto 4, 3) := by decide +kernel
theorem dX0_holdsFor_142 : decode cX0_holdsFor 142 = .ok (.iconst 0, 1) := by decide +kernel
theorem dX0_holdsFor_143 : decode cX0_holdsFor 143 = .ok (.ireturn, 1) := by decide +kernel
theorem dX0_sumFor_0 : decode cX0_sumFor 0 = .ok (.iconst 0, 1) := by decide +kernel
theorem dX0_sumFor_1 : decode cX0_sumFor 1 = .ok (.istore_n 3, 1) := by decide +kernel
theorem dX0_sumFor_2 : decode cX0_sumFor 2 = .ok (.iconst 0, 1) := by decide +kernel
theorem dX0_sumFor_3 : decode cX0_sumFor 3 = .ok (.istore 4, 2) := by decide +kernel
theorem dX0_sumFor_5 : decode cX0_sumFor 5 = .ok (.iload 4, 2) := by decide +kernel
theorem dX0_sumFor_7 : decode cX0_sumFor 7 = .ok (.aload_n 0, 1) := by decide +kernel
theorem dX0_sumFor_8 : decode cX0_sumFor 8 = .ok (.getfield 27, 3) := by decide +kernel
theorem dX0_sumFor_11 : decode cX0_sumFor 11 = .ok (.arraylength, 1) := by decide +kernel
theorem dX0_sumFor_12 : decode cX0_sumFor 12 = .ok (.if_icmp .ge 38, 3) := by decide +kernel
theorem dX0_sumFor_15 : decode cX0_sumFor 15 = .ok (.iload_n 3, 1) := by decide +kernel
theorem dX0_sumFor_16 : decode cX0_sumFor 16 = .ok (.aload_n 0, 1) := by decide +kernel
theorem dX0_sumFor_17 : decode cX0_sumFor 17 = .ok (.getfield 27, 3) := by decide +kernel
theorem dX0_sumFor_20 : decode cX0_sumFor 20 = .ok (.iload 4, 2) := by decide +kernel
theorem dX0_sumFor_22 : decode cX0_sumFor 22 = .ok (.iaload, 1) := by decide +kernel
theorem dX0_sumFor_23 : decode cX0_sumFor 23 = .ok (.invokestatic 44, 3) := by decide +kernel
theorem dX0_sumFor_26 : decode cX0_sumFor 26 = .ok (.aload_n 1, 1) := by decide +kernel
theorem dX0_sumFor_27 : decode cX0_sumFor 27 = .ok (.aload_n 0, 1) := by decide +kernel
theorem dX0_sumFor_28 : decode cX0_sumFor 28 = .ok (.getfield 27, 3) := by decide +kernel
theorem dX0_sumFor_31 : decode cX0_sumFor 31 = .ok (.iload 4, 2) := by decide +kernel
theorem dX0_sumFor_33 : decode cX0_sumFor 33 = .ok (.iaload, 1) := by decide +kernel
theorem dX0_sumFor_34 : decode cX0_sumFor 34 = .ok (.invokestatic 35, 3) := by decide +kernel
theorem dX0_sumFor_37 : decode cX0_sumFor 37 = .ok (.iload_n 2, 1) := by decide +kernel
theorem dX0_sumFor_38 : decode cX0_sumFor 38 = .ok (.invokevirtual 38, 3) := by decide +kernel
theorem dX0_sumFor_41 : decode cX0_sumFor 41 = .ok (.imul, 1) := by decide +kernel
theorem dX0_sumFor_42 : decode cX0_sumFor 42 = .ok (.iadd, 1) := by decide +kernel
theorem dX0_sumFor_43 : decode cX0_sumFor 43 = .ok (.istore_n 3, 1) := by decide +kernel
theorem dX0_sumFor_44 : decode cX0_sumFor 44 = .ok (.iinc 4 1, 3) := by decide +kernel
theorem dX0_sumFor_47 : decode cX0_sumFor 47 = .ok (.goto (-42), 3) := by decide +kernel
theorem dX0_sumFor_50 : decode cX0_sumFor 50 = .ok (.iload_n 3, 1) := by decide +kernel
theorem dX0_sumFor_51 : decode cX0_sumFor 51 = .ok (.ireturn, 1) := by decide +kernel
theorem dX0_compares_0 : decode cX0_compares 0 = .ok (.iload_n 1, 1) := by decide +kernel
theorem dX0_compares_1 : decode cX0_compares 1 = .ok (.lookupswitch 49 #[(60, 27), (62, 38)], 27) := by decide +kernel
theorem dX0_compares_28 : decode cX0_compares 28 = .ok (.iload_n 0, 1) := by decide +kernel
theorem dX0_compares_29 : decode cX0_compares 29 = .ok (.iload_n 2, 1) := by decide +kernel
theorem dX0_compares_30 : decode cX0_compares 30 = .ok (.if_icmp .ge 7, 3) := by decide +kernel
theorem dX0_compares_33 : decode cX0_compares 33 = .ok (.iconst 1, 1) := by decide +kernel
theorem dX0_compares_34 : decode cX0_compares 34 = .ok (.goto 4, 3) := by decide +kernel
theorem dX0_compares_37 : decode cX0_compares 37 = .ok (.iconst 0, 1) := by decide +kernel
theorem dX0_compares_38 : decode cX0_compares 38 = .ok (.ireturn, 1) := by decide +kernel
theorem dX0_compares_39 : decode cX0_compares 39 = .ok (.iload_n 0, 1) := by decide +kernel
theorem dX0_compares_40 : decode cX0_compares 40 = .ok (.iload_n 2, 1) := by decide +kernel
theorem dX0_compares_41 : decode cX0_compares 41 = .ok (.if_icmp .le 7, 3) := by decide +kernel
theorem dX0_compares_44 : decode cX0_compares 44 = .ok (.iconst 1, 1) := by decide +kernel
theorem dX0_compares_45 : decode cX0_compares 45 = .ok (.goto 4, 3) := by decide +kernel
theorem dX0_compares_48 : decode cX0_compares 48 = .ok (.iconst 0, 1) := by decide +kernel
theorem dX0_compares_49 : decode cX0_compares 49 = .ok (.ireturn, 1) := by decide +kernel
theorem dX0_compares_50 : decode cX0_compares 50 = .ok (.iload_n 0, 1) := by decide +kernel
theorem dX0_compares_51 : decode cX0_compares 51 = .ok (.iload_n 2, 1) := by decide +kernel
theorem dX0_compares_52 : decode cX0_compares 52 = .ok (.if_icmp .ne 7, 3) := by decide +kernel
theorem dX0_compares_55 : decode cX0_compares 55 = .ok (.iconst 1, 1) := by decide +kernel
theorem dX0_compares_56 : decode cX0_compares 56 = .ok (.goto 4, 3) := by decide +kernel
theorem dX0_compares_59 : decode cX0_compares 59 = .ok (.iconst 0, 1) := by decide +kernel
theorem dX0_compares_60 : decode cX0_compares 60 = .ok (.ireturn, 1) := by decide +kernel
theorem dX0_doesOf_0 : decode cX0_doesOf 0 = .ok (.iload_n 0, 1) := by decide +kernel
theorem dX0_doesOf_1 : decode cX0_doesOf 1 = .ok (.bipush 127, 2) := by decide +kernel
theorem dX0_doesOf_3 : decode cX0_doesOf 3 = .ok (.iand, 1) := by decide +kernel
theorem dX0_doesOf_4 : decode cX0_doesOf 4 = .ok (.ireturn, 1) := by decide +kernel
theorem dX0_nameOf_0 : decode cX0_nameOf 0 = .ok (.iload_n 0, 1) := by decide +kernel
theorem dX0_nameOf_1 : decode cX0_nameOf 1 = .ok (.bipush 7, 2) := by decide +kernel
theorem dX0_nameOf_3 : decode cX0_nameOf 3 = .ok (.ishr, 1) := by decide +kernel
theorem dX0_nameOf_4 : decode cX0_nameOf 4 = .ok (.bipush 7, 2) := by decide +kernel
theorem dX0_nameOf_6 : decode cX0_nameOf 6 = .ok (.iand, 1) := by decide +kernel
theorem dX0_nameOf_7 : decode cX0_nameOf 7 = .ok (.ireturn, 1) := by decide +kernel
theorem dX0_numberOf_0 : decode cX0_numberOf 0 = .ok (.iload_n 0, 1) := by decide +kernel
theorem dX0_numberOf_1 : decode cX0_numberOf 1 = .ok (.bipush 10, 2) := by decide +kernel
theorem dX0_numberOf_3 : decode cX0_numberOf 3 = .ok (.ishr, 1) := by decide +kernel
theorem dX0_numberOf_4 : decode cX0_numberOf 4 = .ok (.ireturn, 1) := by decide +kernel
theorem dX1_init_0 : decode cX1_init 0 = .ok (.aload_n 0, 1) := by decide +kernel
theorem dX1_init_1 : decode cX1_init 1 = .ok (.invokespecial 3, 3) := by decide +kernel
theorem dX1_init_4 : decode cX1_init 4 = .ok (.return_, 1) := by decide +kernel
theorem dX1_takeIn_0 : decode cX1_takeIn 0 = .ok (.aload_n 0, 1) := by decide +kernel
theorem dX1_takeIn_1 : decode cX1_takeIn 1 = .ok (.dup, 1) := by decide +kernel
theorem dX1_takeIn_2 : decode cX1_takeIn 2 = .ok (.getfield 9, 3) := by decide +kernel
theorem dX1_takeIn_5 : decode cX1_takeIn 5 = .ok (.iload_n 1, 1) := by decide +kernel
theorem dX1_takeIn_6 : decode cX1_takeIn 6 = .ok (.i2l, 1) := by decide +kernel
theorem dX1_takeIn_7 : decode cX1_takeIn 7 = .ok (.ladd, 1) := by decide +kernel
theorem dX1_takeIn_8 : decode cX1_takeIn 8 = .ok (.putfield 9, 3) := by decide +kernel
theorem dX1_takeIn_11 : decode cX1_takeIn 11 = .ok (.aload_n 0, 1) := by decide +kernel
theorem dX1_takeIn_12 : decode cX1_takeIn 12 = .ok (.ldc 15, 2) := by decide +kernel
theorem dX1_takeIn_14 : decode cX1_takeIn 14 = .ok (.aload_n 0, 1) := by decide +kernel
theorem dX1_takeIn_15 : decode cX1_takeIn 15 = .ok (.getfield 16, 3) := by decide +kernel
theorem dX1_takeIn_18 : decode cX1_takeIn 18 = .ok (.iload_n 1, 1) := by decide +kernel
theorem dX1_takeIn_19 : decode cX1_takeIn 19 = .ok (.iadd, 1) := by decide +kernel
theorem dX1_takeIn_20 : decode cX1_takeIn 20 = .ok (.invokestatic 20, 3) := by decide +kernel
theorem dX1_takeIn_23 : decode cX1_takeIn 23 = .ok (.putfield 16, 3) := by decide +kernel
theorem dX1_takeIn_26 : decode cX1_takeIn 26 = .ok (.return_, 1) := by decide +kernel
theorem dX1_payOut_0 : decode cX1_payOut 0 = .ok (.iload_n 1, 1) := by decide +kernel
theorem dX1_payOut_1 : decode cX1_payOut 1 = .ok (.aload_n 0, 1) := by decide +kernel
theorem dX1_payOut_2 : decode cX1_payOut 2 = .ok (.getfield 16, 3) := by decide +kernel
theorem dX1_payOut_5 : decode cX1_payOut 5 = .ok (.invokestatic 20, 3) := by decide +kernel
theorem dX1_payOut_8 : decode cX1_payOut 8 = .ok (.istore_n 2, 1) := by decide +kernel
theorem dX1_payOut_9 : decode cX1_payOut 9 = .ok (.aload_n 0, 1) := by decide +kernel
theorem dX1_payOut_10 : decode cX1_payOut 10 = .ok (.dup, 1) := by decide +kernel
theorem dX1_payOut_11 : decode cX1_payOut 11 = .ok (.getfield 16, 3) := by decide +kernel
theorem dX1_payOut_14 : decode cX1_payOut 14 = .ok (.iload_n 2, 1) := by decide +kernel
theorem dX1_payOut_15 : decode cX1_payOut 15 = .ok (.isub, 1) := by decide +kernel
theorem dX1_payOut_16 : decode cX1_payOut 16 = .ok (.putfield 16, 3) := by decide +kernel
theorem dX1_payOut_19 : decode cX1_payOut 19 = .ok (.iload_n 2, 1) := by decide +kernel
theorem dX1_payOut_20 : decode cX1_payOut 20 = .ok (.ireturn, 1) := by decide +kernel
theorem dX2_init_0 : decode cX2_init 0 = .ok (.aload_n 0, 1) := by decide +kernel
theorem dX2_init_1 : decode cX2_init 1 = .ok (.invokespecial 1, 3) := by decide +kernel
theorem dX2_init_4 : decode cX2_init 4 = .ok (.aload_n 0, 1) := by decide +kernel
theorem dX2_init_5 : decode cX2_init 5 = .ok (.iload_n 1, 1) := by decide +kernel
theorem dX2_init_6 : decode cX2_init 6 = .ok (.putfield 7, 3) := by decide +kernel
theorem dX2_init_9 : decode cX2_init 9 = .ok (.aload_n 0, 1) := by decide +kernel
theorem dX2_init_10 : decode cX2_init 10 = .ok (.iload_n 2, 1) := by decide +kernel
theorem dX2_init_11 : decode cX2_init 11 = .ok (.putfield 13, 3) := by decide +kernel
theorem dX2_init_14 : decode cX2_init 14 = .ok (.aload_n 0, 1) := by decide +kernel
theorem dX2_init_15 : decode cX2_init 15 = .ok (.iload_n 3, 1) := by decide +kernel
theorem dX2_init_16 : decode cX2_init 16 = .ok (.putfield 16, 3) := by decide +kernel
theorem dX2_init_19 : decode cX2_init 19 = .ok (.return_, 1) := by decide +kernel
theorem dX2_isDueOn_0 : decode cX2_isDueOn 0 = .ok (.aload_n 0, 1) := by decide +kernel
theorem dX2_isDueOn_1 : decode cX2_isDueOn 1 = .ok (.getfield 13, 3) := by decide +kernel
theorem dX2_isDueOn_4 : decode cX2_isDueOn 4 = .ok (.ifCond .le 29, 3) := by decide +kernel
theorem dX2_isDueOn_7 : decode cX2_isDueOn 7 = .ok (.iload_n 1, 1) := by decide +kernel
theorem dX2_isDueOn_8 : decode cX2_isDueOn 8 = .ok (.aload_n 0, 1) := by decide +kernel
theorem dX2_isDueOn_9 : decode cX2_isDueOn 9 = .ok (.getfield 16, 3) := by decide +kernel
theorem dX2_isDueOn_12 : decode cX2_isDueOn 12 = .ok (.if_icmp .lt 21, 3) := by decide +kernel
theorem dX2_isDueOn_15 : decode cX2_isDueOn 15 = .ok (.iload_n 1, 1) := by decide +kernel
theorem dX2_isDueOn_16 : decode cX2_isDueOn 16 = .ok (.aload_n 0, 1) := by decide +kernel
theorem dX2_isDueOn_17 : decode cX2_isDueOn 17 = .ok (.getfield 16, 3) := by decide +kernel
theorem dX2_isDueOn_20 : decode cX2_isDueOn 20 = .ok (.isub, 1) := by decide +kernel
theorem dX2_isDueOn_21 : decode cX2_isDueOn 21 = .ok (.aload_n 0, 1) := by decide +kernel
theorem dX2_isDueOn_22 : decode cX2_isDueOn 22 = .ok (.getfield 13, 3) := by decide +kernel
theorem dX2_isDueOn_25 : decode cX2_isDueOn 25 = .ok (.irem, 1) := by decide +kernel
theorem dX2_isDueOn_26 : decode cX2_isDueOn 26 = .ok (.ifCond .ne 7, 3) := by decide +kernel
theorem dX2_isDueOn_29 : decode cX2_isDueOn 29 = .ok (.iconst 1, 1) := by decide +kernel
theorem dX2_isDueOn_30 : decode cX2_isDueOn 30 = .ok (.goto 4, 3) := by decide +kernel
theorem dX2_isDueOn_33 : decode cX2_isDueOn 33 = .ok (.iconst 0, 1) := by decide +kernel
theorem dX2_isDueOn_34 : decode cX2_isDueOn 34 = .ok (.ireturn, 1) := by decide +kernel
theorem dX3_init_0 : decode cX3_init 0 = .ok (.aload_n 0, 1) := by decide +kernel
theorem dX3_init_1 : decode cX3_init 1 = .ok (.invokespecial 3, 3) := by decide +kernel
theorem dX3_init_4 : decode cX3_init 4 = .ok (.aload_n 0, 1) := by decide +kernel
theorem dX3_init_5 : decode cX3_init 5 = .ok (.bipush 6, 2) := by decide +kernel
theorem dX3_init_7 : decode cX3_init 7 = .ok (.newarray .int, 2) := by decide +kernel
theorem dX3_init_9 : decode cX3_init 9 = .ok (.putfield 9, 3) := by decide +kernel
theorem dX3_init_12 : decode cX3_init 12 = .ok (.aload_n 0, 1) := by decide +kernel
theorem dX3_init_13 : decode cX3_init 13 = .ok (.bipush 6, 2) := by decide +kernel
theorem dX3_init_15 : decode cX3_init 15 = .ok (.newarray .int, 2) := by decide +kernel
theorem dX3_init_17 : decode cX3_init 17 = .ok (.putfield 15, 3) := by decide +kernel
theorem dX3_init_20 : decode cX3_init 20 = .ok (.aload_n 0, 1) := by decide +kernel
theorem dX3_init_21 : decode cX3_init 21 = .ok (.ldc 18, 2) := by decide +kernel
theorem dX3_init_23 : decode cX3_init 23 = .ok (.putfield 19, 3) := by decide +kernel
theorem dX3_init_26 : decode cX3_init 26 = .ok (.aload_n 0, 1) := by decide +kernel
theorem dX3_init_27 : decode cX3_init 27 = .ok (.iconst (-1), 1) := by decide +kernel
theorem dX3_init_28 : decode cX3_init 28 = .ok (.putfield 23, 3) := by decide +kernel
theorem dX3_init_31 : decode cX3_init 31 = .ok (.aload_n 0, 1) := by decide +kernel
theorem dX3_init_32 : decode cX3_init 32 = .ok (.iload_n 1, 1) := by decide +kernel
theorem dX3_init_33 : decode cX3_init 33 = .ok (.putfield 26, 3) := by decide +kernel
theorem dX3_init_36 : decode cX3_init 36 = .ok (.aload_n 0, 1) := by decide +kernel
theorem dX3_init_37 : decode cX3_init 37 = .ok (.iload_n 2, 1) := by decide +kernel
theorem dX3_init_38 : decode cX3_init 38 = .ok (.putfield 29, 3) := by decide +kernel
theorem dX3_init_41 : decode cX3_init 41 = .ok (.aload_n 0, 1) := by decide +kernel
theorem dX3_init_42 : decode cX3_init 42 = .ok (.iload_n 3, 1) := by decide +kernel
theorem dX3_init_43 : decode cX3_init 43 = .ok (.putfield 32, 3) := by decide +kernel
theorem dX3_init_46 : decode cX3_init 46 = .ok (.aload_n 0, 1) := by decide +kernel
theorem dX3_init_47 : decode cX3_init 47 = .ok (.iload 4, 2) := by decide +kernel
theorem dX3_init_49 : decode cX3_init 49 = .ok (.putfield 36, 3) := by decide +kernel
theorem dX3_init_52 : decode cX3_init 52 = .ok (.return_, 1) := by decide +kernel
theorem dX3_tellMeans_0 : decode cX3_tellMeans 0 = .ok (.aload_n 0, 1) := by decide +kernel
theorem dX3_tellMeans_1 : decode cX3_tellMeans 1 = .ok (.getfield 39, 3) := by decide +kernel
theorem dX3_tellMeans_4 : decode cX3_tellMeans 4 = .ok (.aload_n 0, 1) := by decide +kernel
theorem dX3_tellMeans_5 : decode cX3_tellMeans 5 = .ok (.getfield 9, 3) := by decide +kernel
theorem dX3_tellMeans_8 : decode cX3_tellMeans 8 = .ok (.arraylength, 1) := by decide +kernel
theorem dX3_tellMeans_9 : decode cX3_tellMeans 9 = .ok (.if_icmp .ge 45, 3) := by decide +kernel
theorem dX3_tellMeans_12 : decode cX3_tellMeans 12 = .ok (.aload_n 0, 1) := by decide +kernel
theorem dX3_tellMeans_13 : decode cX3_tellMeans 13 = .ok (.getfield 39, 3) := by decide +kernel
theorem dX3_tellMeans_16 : decode cX3_tellMeans 16 = .ok (.aload_n 0, 1) := by decide +kernel
theorem dX3_tellMeans_17 : decode cX3_tellMeans 17 = .ok (.getfield 15, 3) := by decide +kernel
theorem dX3_tellMeans_20 : decode cX3_tellMeans 20 = .ok (.arraylength, 1) := by decide +kernel
theorem dX3_tellMeans_21 : decode cX3_tellMeans 21 = .ok (.if_icmp .ge 33, 3) := by decide +kernel
theorem dX3_tellMeans_24 : decode cX3_tellMeans 24 = .ok (.aload_n 0, 1) := by decide +kernel
theorem dX3_tellMeans_25 : decode cX3_tellMeans 25 = .ok (.getfield 9, 3) := by decide +kernel
theorem dX3_tellMeans_28 : decode cX3_tellMeans 28 = .ok (.aload_n 0, 1) := by decide +kernel
theorem dX3_tellMeans_29 : decode cX3_tellMeans 29 = .ok (.getfield 39, 3) := by decide +kernel
theorem dX3_tellMeans_32 : decode cX3_tellMeans 32 = .ok (.iload_n 1, 1) := by decide +kernel
theorem dX3_tellMeans_33 : decode cX3_tellMeans 33 = .ok (.iastore, 1) := by decide +kernel
theorem dX3_tellMeans_34 : decode cX3_tellMeans 34 = .ok (.aload_n 0, 1) := by decide +kernel
theorem dX3_tellMeans_35 : decode cX3_tellMeans 35 = .ok (.getfield 15, 3) := by decide +kernel
theorem dX3_tellMeans_38 : decode cX3_tellMeans 38 = .ok (.aload_n 0, 1) := by decide +kernel
theorem dX3_tellMeans_39 : decode cX3_tellMeans 39 = .ok (.getfield 39, 3) := by decide +kernel
theorem dX3_tellMeans_42 : decode cX3_tellMeans 42 = .ok (.iload_n 2, 1) := by decide +kernel
theorem dX3_tellMeans_43 : decode cX3_tellMeans 43 = .ok (.iastore, 1) := by decide +kernel
theorem dX3_tellMeans_44 : decode cX3_tellMeans 44 = .ok (.aload_n 0, 1) := by decide +kernel
theorem dX3_tellMeans_45 : decode cX3_tellMeans 45 = .ok (.dup, 1) := by decide +kernel
theorem dX3_tellMeans_46 : decode cX3_tellMeans 46 = .ok (.getfield 39, 3) := by decide +kernel
theorem dX3_tellMeans_49 : decode cX3_tellMeans 49 = .ok (.iconst 1, 1) := by decide +kernel
theorem dX3_tellMeans_50 : decode cX3_tellMeans 50 = .ok (.iadd, 1) := by decide +kernel
theorem dX3_tellMeans_51 : decode cX3_tellMeans 51 = .ok (.putfield 39, 3) := by decide +kernel
theorem dX3_tellMeans_54 : decode cX3_tellMeans 54 = .ok (.return_, 1) := by decide +kernel
theorem dX3_tell_0 : decode cX3_tell 0 = .ok (.iload_n 1, 1) := by decide +kernel
theorem dX3_tell_1 : decode cX3_tell 1 = .ok (.tableswitch 95 0 4 #[35, 50, 65, 71, 84], 35) := by decide +kernel
theorem dX3_tell_36 : decode cX3_tell 36 = .ok (.iconst 0, 1) := by decide +kernel
theorem dX3_tell_37 : decode cX3_tell 37 = .ok (.iload_n 2, 1) := by decide +kernel
theorem dX3_tell_38 : decode cX3_tell 38 = .ok (.aload_n 0, 1) := by decide +kernel
theorem dX3_tell_39 : decode cX3_tell 39 = .ok (.getfield 26, 3) := by decide +kernel
theorem dX3_tell_42 : decode cX3_tell 42 = .ok (.isub, 1) := by decide +kernel
theorem dX3_tell_43 : decode cX3_tell 43 = .ok (.invokestatic 42, 3) := by decide +kernel
theorem dX3_tell_46 : decode cX3_tell 46 = .ok (.sipush 365, 3) := by decide +kernel
theorem dX3_tell_49 : decode cX3_tell 49 = .ok (.idiv, 1) := by decide +kernel
theorem dX3_tell_50 : decode cX3_tell 50 = .ok (.ireturn, 1) := by decide +kernel
theorem dX3_tell_51 : decode cX3_tell 51 = .ok (.iconst 0, 1) := by decide +kernel
theorem dX3_tell_52 : decode cX3_tell 52 = .ok (.iload_n 2, 1) := by decide +kernel
theorem dX3_tell_53 : decode cX3_tell 53 = .ok (.aload_n 0, 1) := by decide +kernel
theorem dX3_tell_54 : decode cX3_tell 54 = .ok (.getfield 29, 3) := by decide +kernel
theorem dX3_tell_57 : decode cX3_tell 57 = .ok (.isub, 1) := by decide +kernel
theorem dX3_tell_58 : decode cX3_tell 58 = .ok (.invokestatic 42, 3) := by decide +kernel
theorem dX3_tell_61 : decode cX3_tell 61 = .ok (.sipush 365, 3) := by decide +kernel
theorem dX3_tell_64 : decode cX3_tell 64 = .ok (.idiv, 1) := by decide +kernel
theorem dX3_tell_65 : decode cX3_tell 65 = .ok (.ireturn, 1) := by decide +kernel
theorem dX3_tell_66 : decode cX3_tell 66 = .ok (.aload_n 0, 1) := by decide +kernel
theorem dX3_tell_67 : decode cX3_tell 67 = .ok (.iload_n 2, 1) := by decide +kernel
theorem dX3_tell_68 : decode cX3_tell 68 = .ok (.invokevirtual 48, 3) := by decide +kernel
theorem dX3_tell_71 : decode cX3_tell 71 = .ok (.ireturn, 1) := by decide +kernel
theorem dX3_tell_72 : decode cX3_tell 72 = .ok (.aload_n 0, 1) := by decide +kernel
theorem dX3_tell_73 : decode cX3_tell 73 = .ok (.getfield 32, 3) := by decide +kernel
theorem dX3_tell_76 : decode cX3_tell 76 = .ok (.ifCond .eq 7, 3) := by decide +kernel
theorem dX3_tell_79 : decode cX3_tell 79 = .ok (.iconst 1, 1) := by decide +kernel
theorem dX3_tell_80 : decode cX3_tell 80 = .ok (.goto 4, 3) := by decide +kernel
theorem dX3_tell_83 : decode cX3_tell 83 = .ok (.iconst 0, 1) := by decide +kernel
theorem dX3_tell_84 : decode cX3_tell 84 = .ok (.ireturn, 1) := by decide +kernel
theorem dX3_tell_85 : decode cX3_tell 85 = .ok (.iconst 0, 1) := by decide +kernel
theorem dX3_tell_86 : decode cX3_tell 86 = .ok (.iload_n 2, 1) := by decide +kernel
theorem dX3_tell_87 : decode cX3_tell 87 = .ok (.aload_n 0, 1) := by decide +kernel
theorem dX3_tell_88 : decode cX3_tell 88 = .ok (.getfield 36, 3) := by decide +kernel
theorem dX3_tell_91 : decode cX3_tell 91 = .ok (.isub, 1) := by decide +kernel
theorem dX3_tell_92 : decode cX3_tell 92 = .ok (.invokestatic 42, 3) := by decide +kernel
theorem dX3_tell_95 : decode cX3_tell 95 = .ok (.ireturn, 1) := by decide +kernel
theorem dX3_tell_96 : decode cX3_tell 96 = .ok (.iconst 1, 1) := by decide +kernel
theorem dX3_tell_97 : decode cX3_tell 97 = .ok (.ireturn, 1) := by decide +kernel
theorem dX3_meansOn_0 : decode cX3_meansOn 0 = .ok (.iconst (-1), 1) := by decide +kernel
theorem dX3_meansOn_1 : decode cX3_meansOn 1 = .ok (.istore_n 2, 1) := by decide +kernel
theorem dX3_meansOn_2 : decode cX3_meansOn 2 = .ok (.iconst 0, 1) := by decide +kernel
theorem dX3_meansOn_3 : decode cX3_meansOn 3 = .ok (.istore_n 3, 1) := by decide +kernel
theorem dX3_meansOn_4 : decode cX3_meansOn 4 = .ok (.iconst 0, 1) := by decide +kernel
theorem dX3_meansOn_5 : decode cX3_meansOn 5 = .ok (.istore 4, 2) := by decide +kernel
theorem dX3_meansOn_7 : decode cX3_meansOn 7 = .ok (.iload 4, 2) := by decide +kernel
theorem dX3_meansOn_9 : decode cX3_meansOn 9 = .ok (.aload_n 0, 1) := by decide +kernel
theorem dX3_meansOn_10 : decode cX3_meansOn 10 = .ok (.getfield 39, 3) := by decide +kernel
theorem dX3_meansOn_13 : decode cX3_meansOn 13 = .ok (.if_icmp .ge 57, 3) := by decide +kernel
theorem dX3_meansOn_16 : decode cX3_meansOn 16 = .ok (.iload 4, 2) := by decide +kernel
theorem dX3_meansOn_18 : decode cX3_meansOn 18 = .ok (.aload_n 0, 1) := by decide +kernel
theorem dX3_meansOn_19 : decode cX3_meansOn 19 = .ok (.getfield 9, 3) := by decide +kernel
theorem dX3_meansOn_22 : decode cX3_meansOn 22 = .ok (.arraylength, 1) := by decide +kernel
theorem dX3_meansOn_23 : decode cX3_meansOn 23 = .ok (.if_icmp .ge 47, 3) := by decide +kernel
theorem dX3_meansOn_26 : decode cX3_meansOn 26 = .ok (.aload_n 0, 1) := by decide +kernel
theorem dX3_meansOn_27 : decode cX3_meansOn 27 = .ok (.getfield 9, 3) := by decide +kernel
theorem dX3_meansOn_30 : decode cX3_meansOn 30 = .ok (.iload 4, 2) := by decide +kernel
theorem dX3_meansOn_32 : decode cX3_meansOn 32 = .ok (.iaload, 1) := by decide +kernel
theorem dX3_meansOn_33 : decode cX3_meansOn 33 = .ok (.iload_n 1, 1) := by decide +kernel
theorem dX3_meansOn_34 : decode cX3_meansOn 34 = .ok (.if_icmp .gt 30, 3) := by decide +kernel
theorem dX3_meansOn_37 : decode cX3_meansOn 37 = .ok (.aload_n 0, 1) := by decide +kernel
theorem dX3_meansOn_38 : decode cX3_meansOn 38 = .ok (.getfield 9, 3) := by decide +kernel
theorem dX3_meansOn_41 : decode cX3_meansOn 41 = .ok (.iload 4, 2) := by decide +kernel
theorem dX3_meansOn_43 : decode cX3_meansOn 43 = .ok (.iaload, 1) := by decide +kernel
theorem dX3_meansOn_44 : decode cX3_meansOn 44 = .ok (.iload_n 2, 1) := by decide +kernel
theorem dX3_meansOn_45 : decode cX3_meansOn 45 = .ok (.if_icmp .lt 19, 3) := by decide +kernel
theorem dX3_meansOn_48 : decode cX3_meansOn 48 = .ok (.aload_n 0, 1) := by decide +kernel
theorem dX3_meansOn_49 : decode cX3_meansOn 49 = .ok (.getfield 9, 3) := by decide +kernel
theorem dX3_meansOn_52 : decode cX3_meansOn 52 = .ok (.iload 4, 2) := by decide +kernel
theorem dX3_meansOn_54 : decode cX3_meansOn 54 = .ok (.iaload, 1) := by decide +kernel
theorem dX3_meansOn_55 : decode cX3_meansOn 55 = .ok (.istore_n 2, 1) := by decide +kernel
theorem dX3_meansOn_56 : decode cX3_meansOn 56 = .ok (.aload_n 0, 1) := by decide +kernel
theorem dX3_meansOn_57 : decode cX3_meansOn 57 = .ok (.getfield 15, 3) := by decide +kernel
theorem dX3_meansOn_60 : decode cX3_meansOn 60 = .ok (.iload 4, 2) := by decide +kernel
theorem dX3_meansOn_62 : decode cX3_meansOn 62 = .ok (.iaload, 1) := by decide +kernel
theorem dX3_meansOn_63 : decode cX3_meansOn 63 = .ok (.istore_n 3, 1) := by decide +kernel
theorem dX3_meansOn_64 : decode cX3_meansOn 64 = .ok (.iinc 4 1, 3) := by decide +kernel
theorem dX3_meansOn_67 : decode cX3_meansOn 67 = .ok (.goto (-60), 3) := by decide +kernel
theorem dX3_meansOn_70 : decode cX3_meansOn 70 = .ok (.iload_n 3, 1) := by decide +kernel
theorem dX3_meansOn_71 : decode cX3_meansOn 71 = .ok (.ireturn, 1) := by decide +kernel
theorem dX4_init_0 : decode cX4_init 0 = .ok (.aload_n 0, 1) := by decide +kernel
theorem dX4_init_1 : decode cX4_init 1 = .ok (.invokespecial 3, 3) := by decide +kernel
theorem dX4_init_4 : decode cX4_init 4 = .ok (.aload_n 0, 1) := by decide +kernel
theorem dX4_init_5 : decode cX4_init 5 = .ok (.new 9, 3) := by decide +kernel
theorem dX4_init_8 : decode cX4_init 8 = .ok (.dup, 1) := by decide +kernel
theorem dX4_init_9 : decode cX4_init 9 = .ok (.invokespecial 11, 3) := by decide +kernel
theorem dX4_init_12 : decode cX4_init 12 = .ok (.putfield 12, 3) := by decide +kernel
theorem dX4_init_15 : decode cX4_init 15 = .ok (.aload_n 0, 1) := by decide +kernel
theorem dX4_init_16 : decode cX4_init 16 = .ok (.bipush 12, 2) := by decide +kernel
theorem dX4_init_18 : decode cX4_init 18 = .ok (.newarray .int, 2) := by decide +kernel
theorem dX4_init_20 : decode cX4_init 20 = .ok (.putfield 18, 3) := by decide +kernel
theorem dX4_init_23 : decode cX4_init 23 = .ok (.aload_n 0, 1) := by decide +kernel
theorem dX4_init_24 : decode cX4_init 24 = .ok (.bipush 12, 2) := by decide +kernel
theorem dX4_init_26 : decode cX4_init 26 = .ok (.newarray .int, 2) := by decide +kernel
theorem dX4_init_28 : decode cX4_init 28 = .ok (.putfield 22, 3) := by decide +kernel
theorem dX4_init_31 : decode cX4_init 31 = .ok (.aload_n 0, 1) := by decide +kernel
theorem dX4_init_32 : decode cX4_init 32 = .ok (.bipush 12, 2) := by decide +kernel
theorem dX4_init_34 : decode cX4_init 34 = .ok (.newarray .int, 2) := by decide +kernel
theorem dX4_init_36 : decode cX4_init 36 = .ok (.putfield 25, 3) := by decide +kernel
theorem dX4_init_39 : decode cX4_init 39 = .ok (.aload_n 0, 1) := by decide +kernel
theorem dX4_init_40 : decode cX4_init 40 = .ok (.aload_n 1, 1) := by decide +kernel
theorem dX4_init_41 : decode cX4_init 41 = .ok (.putfield 28, 3) := by decide +kernel
theorem dX4_init_44 : decode cX4_init 44 = .ok (.return_, 1) := by decide +kernel
theorem dX4_read_0 : decode cX4_read 0 = .ok (.aload_n 0, 1) := by decide +kernel
theorem dX4_read_1 : decode cX4_read 1 = .ok (.invokevirtual 32, 3) := by decide +kernel
theorem dX4_read_4 : decode cX4_read 4 = .ok (.aload_n 0, 1) := by decide +kernel
theorem dX4_read_5 : decode cX4_read 5 = .ok (.getfield 28, 3) := by decide +kernel
theorem dX4_read_8 : decode cX4_read 8 = .ok (.iload_n 1, 1) := by decide +kernel
theorem dX4_read_9 : decode cX4_read 9 = .ok (.invokevirtual 35, 3) := by decide +kernel
theorem dX4_read_12 : decode cX4_read 12 = .ok (.iconst 0, 1) := by decide +kernel
theorem dX4_read_13 : decode cX4_read 13 = .ok (.istore_n 2, 1) := by decide +kernel
theorem dX4_read_14 : decode cX4_read 14 = .ok (.iconst 0, 1) := by decide +kernel
theorem dX4_read_15 : decode cX4_read 15 = .ok (.istore_n 3, 1) := by decide +kernel
theorem dX4_read_16 : decode cX4_read 16 = .ok (.iload_n 3, 1) := by decide +kernel
theorem dX4_read_17 : decode cX4_read 17 = .ok (.sipush 300, 3) := by decide +kernel
theorem dX4_read_20 : decode cX4_read 20 = .ok (.if_icmp .gt 28, 3) := by decide +kernel
theorem dX4_read_23 : decode cX4_read 23 = .ok (.iload_n 2, 1) := by decide +kernel
theorem dX4_read_24 : decode cX4_read 24 = .ok (.bipush 12, 2) := by decide +kernel
theorem dX4_read_26 : decode cX4_read 26 = .ok (.if_icmp .eq 22, 3) := by decide +kernel
theorem dX4_read_29 : decode cX4_read 29 = .ok (.aload_n 0, 1) := by decide +kernel
theorem dX4_read_30 : decode cX4_read 30 = .ok (.getfield 28, 3) := by decide +kernel
theorem dX4_read_33 : decode cX4_read 33 = .ok (.invokevirtual 41, 3) := by decide +kernel
theorem dX4_read_36 : decode cX4_read 36 = .ok (.aload_n 0, 1) := by decide +kernel
theorem dX4_read_37 : decode cX4_read 37 = .ok (.iload_n 2, 1) := by decide +kernel
theorem dX4_read_38 : decode cX4_read 38 = .ok (.invokevirtual 44, 3) := by decide +kernel
theorem dX4_read_41 : decode cX4_read 41 = .ok (.istore_n 2, 1) := by decide +kernel
theorem dX4_read_42 : decode cX4_read 42 = .ok (.iinc 3 1, 3) := by decide +kernel
theorem dX4_read_45 : decode cX4_read 45 = .ok (.goto (-29), 3) := by decide +kernel
theorem dX4_read_48 : decode cX4_read 48 = .ok (.aload_n 0, 1) := by decide +kernel
theorem dX4_read_49 : decode cX4_read 49 = .ok (.getfield 48, 3) := by decide +kernel
theorem dX4_read_52 : decode cX4_read 52 = .ok (.ireturn, 1) := by decide +kernel
theorem dX4_whatOf_0 : decode cX4_whatOf 0 = .ok (.iload_n 1, 1) := by decide +kernel
theorem dX4_whatOf_1 : decode cX4_whatOf 1 = .ok (.ifCond .lt 20, 3) := by decide +kernel
theorem dX4_whatOf_4 : decode cX4_whatOf 4 = .ok (.iload_n 1, 1) := by decide +kernel
theorem dX4_whatOf_5 : decode cX4_whatOf 5 = .ok (.aload_n 0, 1) := by decide +kernel
theorem dX4_whatOf_6 : decode cX4_whatOf 6 = .ok (.getfield 52, 3) := by decide +kernel
theorem dX4_whatOf_9 : decode cX4_whatOf 9 = .ok (.if_icmp .ge 12, 3) := by decide +kernel
theorem dX4_whatOf_12 : decode cX4_whatOf 12 = .ok (.aload_n 0, 1) := by decide +kernel
theorem dX4_whatOf_13 : decode cX4_whatOf 13 = .ok (.getfield 18, 3) := by decide +kernel
theorem dX4_whatOf_16 : decode cX4_whatOf 16 = .ok (.iload_n 1, 1) := by decide +kernel
theorem dX4_whatOf_17 : decode cX4_whatOf 17 = .ok (.iaload, 1) := by decide +kernel
theorem dX4_whatOf_18 : decode cX4_whatOf 18 = .ok (.goto 4, 3) := by decide +kernel
theorem dX4_whatOf_21 : decode cX4_whatOf 21 = .ok (.iconst 0, 1) := by decide +kernel
theorem dX4_whatOf_22 : decode cX4_whatOf 22 = .ok (.ireturn, 1) := by decide +kernel
theorem dX4_numberOf_0 : decode cX4_numberOf 0 = .ok (.iload_n 1, 1) := by decide +kernel
theorem dX4_numberOf_1 : decode cX4_numberOf 1 = .ok (.ifCond .lt 20, 3) := by decide +kernel
theorem dX4_numberOf_4 : decode cX4_numberOf 4 = .ok (.iload_n 1, 1) := by decide +kernel
theorem dX4_numberOf_5 : decode cX4_numberOf 5 = .ok (.aload_n 0, 1) := by decide +kernel
theorem dX4_numberOf_6 : decode cX4_numberOf 6 = .ok (.getfield 52, 3) := by decide +kernel
theorem dX4_numberOf_9 : decode cX4_numberOf 9 = .ok (.if_icmp .ge 12, 3) := by decide +kernel
theorem dX4_numberOf_12 : decode cX4_numberOf 12 = .ok (.aload_n 0, 1) := by decide +kernel
theorem dX4_numberOf_13 : decode cX4_numberOf 13 = .ok (.getfield 22, 3) := by decide +kernel
theorem dX4_numberOf_16 : decode cX4_numberOf 16 = .ok (.iload_n 1, 1) := by decide +kernel
theorem dX4_numberOf_17 : decode cX4_numberOf 17 = .ok (.iaload, 1) := by decide +kernel
theorem dX4_numberOf_18 : decode cX4_numberOf 18 = .ok (.goto 4, 3) := by decide +kernel
theorem dX4_numberOf_21 : decode cX4_numberOf 21 = .ok (.iconst 0, 1) := by decide +kernel
theorem dX4_numberOf_22 : decode cX4_numberOf 22 = .ok (.ireturn, 1) := by decide +kernel
theorem dX4_codeOf_0 : decode cX4_codeOf 0 = .ok (.iload_n 1, 1) := by decide +kernel
theorem dX4_codeOf_1 : decode cX4_codeOf 1 = .ok (.ifCond .lt 11, 3) := by decide +kernel
theorem dX4_codeOf_4 : decode cX4_codeOf 4 = .ok (.iload_n 1, 1) := by decide +kernel
theorem dX4_codeOf_5 : decode cX4_codeOf 5 = .ok (.aload_n 0, 1) := by decide +kernel
theorem dX4_codeOf_6 : decode cX4_codeOf 6 = .ok (.getfield 52, 3) := by decide +kernel
theorem dX4_codeOf_9 : decode cX4_codeOf 9 = .ok (.if_icmp .lt 7, 3) := by decide +kernel
theorem dX4_codeOf_12 : decode cX4_codeOf 12 = .ok (.iconst 0, 1) := by decide +kernel
theorem dX4_codeOf_13 : decode cX4_codeOf 13 = .ok (.newarray .int, 2) := by decide +kernel
theorem dX4_codeOf_15 : decode cX4_codeOf 15 = .ok (.areturn, 1) := by decide +kernel
theorem dX4_codeOf_16 : decode cX4_codeOf 16 = .ok (.iload_n 1, 1) := by decide +kernel
theorem dX4_codeOf_17 : decode cX4_codeOf 17 = .ok (.ifCond .ne 7, 3) := by decide +kernel
theorem dX4_codeOf_20 : decode cX4_codeOf 20 = .ok (.iconst 0, 1) := by decide +kernel
theorem dX4_codeOf_21 : decode cX4_codeOf 21 = .ok (.goto 11, 3) := by decide +kernel
theorem dX4_codeOf_24 : decode cX4_codeOf 24 = .ok (.aload_n 0, 1) := by decide +kernel
theorem dX4_codeOf_25 : decode cX4_codeOf 25 = .ok (.getfield 25, 3) := by decide +kernel
theorem dX4_codeOf_28 : decode cX4_codeOf 28 = .ok (.iload_n 1, 1) := by decide +kernel
theorem dX4_codeOf_29 : decode cX4_codeOf 29 = .ok (.iconst 1, 1) := by decide +kernel
theorem dX4_codeOf_30 : decode cX4_codeOf 30 = .ok (.isub, 1) := by decide +kernel
theorem dX4_codeOf_31 : decode cX4_codeOf 31 = .ok (.iaload, 1) := by decide +kernel
theorem dX4_codeOf_32 : decode cX4_codeOf 32 = .ok (.istore_n 2, 1) := by decide +kernel
theorem dX4_codeOf_33 : decode cX4_codeOf 33 = .ok (.aload_n 0, 1) := by decide +kernel
theorem dX4_codeOf_34 : decode cX4_codeOf 34 = .ok (.getfield 25, 3) := by decide +kernel
theorem dX4_codeOf_37 : decode cX4_codeOf 37 = .ok (.iload_n 1, 1) := by decide +kernel
theorem dX4_codeOf_38 : decode cX4_codeOf 38 = .ok (.iaload, 1) := by decide +kernel
theorem dX4_codeOf_39 : decode cX4_codeOf 39 = .ok (.istore_n 3, 1) := by decide +kernel
theorem dX4_codeOf_40 : decode cX4_codeOf 40 = .ok (.iload_n 2, 1) := by decide +kernel
theorem dX4_codeOf_41 : decode cX4_codeOf 41 = .ok (.ifCond .lt 20, 3) := by decide +kernel
theorem dX4_codeOf_44 : decode cX4_codeOf 44 = .ok (.iload_n 2, 1) := by decide +kernel
theorem dX4_codeOf_45 : decode cX4_codeOf 45 = .ok (.iload_n 3, 1) := by decide +kernel
theorem dX4_codeOf_46 : decode cX4_codeOf 46 = .ok (.if_icmp .gt 15, 3) := by decide +kernel
theorem dX4_codeOf_49 : decode cX4_codeOf 49 = .ok (.iload_n 3, 1) := by decide +kernel
theorem dX4_codeOf_50 : decode cX4_codeOf 50 = .ok (.aload_n 0, 1) := by decide +kernel
theorem dX4_codeOf_51 : decode cX4_codeOf 51 = .ok (.getfield 12, 3) := by decide +kernel
theorem dX4_codeOf_54 : decode cX4_codeOf 54 = .ok (.getfield 55, 3) := by decide +kernel
theorem dX4_codeOf_57 : decode cX4_codeOf 57 = .ok (.arraylength, 1) := by decide +kernel
theorem dX4_codeOf_58 : decode cX4_codeOf 58 = .ok (.if_icmp .le 7, 3) := by decide +kernel
theorem dX4_codeOf_61 : decode cX4_codeOf 61 = .ok (.iconst 0, 1) := by decide +kernel
theorem dX4_codeOf_62 : decode cX4_codeOf 62 = .ok (.newarray .int, 2) := by decide +kernel
theorem dX4_codeOf_64 : decode cX4_codeOf 64 = .ok (.areturn, 1) := by decide +kernel
theorem dX4_codeOf_65 : decode cX4_codeOf 65 = .ok (.aload_n 0, 1) := by decide +kernel
theorem dX4_codeOf_66 : decode cX4_codeOf 66 = .ok (.getfield 12, 3) := by decide +kernel
theorem dX4_codeOf_69 : decode cX4_codeOf 69 = .ok (.getfield 55, 3) := by decide +kernel
theorem dX4_codeOf_72 : decode cX4_codeOf 72 = .ok (.iload_n 2, 1) := by decide +kernel
theorem dX4_codeOf_73 : decode cX4_codeOf 73 = .ok (.iload_n 3, 1) := by decide +kernel
theorem dX4_codeOf_74 : decode cX4_codeOf 74 = .ok (.invokestatic 58, 3) := by decide +kernel
theorem dX4_codeOf_77 : decode cX4_codeOf 77 = .ok (.areturn, 1) := by decide +kernel
theorem dX4_begin_0 : decode cX4_begin 0 = .ok (.aload_n 0, 1) := by decide +kernel
theorem dX4_begin_1 : decode cX4_begin 1 = .ok (.getfield 12, 3) := by decide +kernel
theorem dX4_begin_4 : decode cX4_begin 4 = .ok (.invokevirtual 64, 3) := by decide +kernel
theorem dX4_begin_7 : decode cX4_begin 7 = .ok (.aload_n 0, 1) := by decide +kernel
theorem dX4_begin_8 : decode cX4_begin 8 = .ok (.iconst 0, 1) := by decide +kernel
theorem dX4_begin_9 : decode cX4_begin 9 = .ok (.putfield 52, 3) := by decide +kernel
theorem dX4_begin_12 : decode cX4_begin 12 = .ok (.aload_n 0, 1) := by decide +kernel
theorem dX4_begin_13 : decode cX4_begin 13 = .ok (.iconst 0, 1) := by decide +kernel
theorem dX4_begin_14 : decode cX4_begin 14 = .ok (.putfield 48, 3) := by decide +kernel
theorem dX4_begin_17 : decode cX4_begin 17 = .ok (.aload_n 0, 1) := by decide +kernel
theorem dX4_begin_18 : decode cX4_begin 18 = .ok (.iconst 0, 1) := by decide +kernel
theorem dX4_begin_19 : decode cX4_begin 19 = .ok (.putfield 65, 3) := by decide +kernel
theorem dX4_begin_22 : decode cX4_begin 22 = .ok (.aload_n 0, 1) := by decide +kernel
theorem dX4_begin_23 : decode cX4_begin 23 = .ok (.iconst 0, 1) := by decide +kernel
theorem dX4_begin_24 : decode cX4_begin 24 = .ok (.putfield 68, 3) := by decide +kernel
theorem dX4_begin_27 : decode cX4_begin 27 = .ok (.aload_n 0, 1) := by decide +kernel
theorem dX4_begin_28 : decode cX4_begin 28 = .ok (.iconst 0, 1) := by decide +kernel
theorem dX4_begin_29 : decode cX4_begin 29 = .ok (.putfield 71, 3) := by decide +kernel
theorem dX4_begin_32 : decode cX4_begin 32 = .ok (.return_, 1) := by decide +kernel
theorem dX4_step_0 : decode cX4_step 0 = .ok (.iload_n 1, 1) := by decide +kernel
theorem dX4_step_1 : decode cX4_step 1 = .ok (.tableswitch 125 0 11 #[63, 68, 74, 80, 85, 90, 95, 100, 105, 110, 115, 120], 63) := by decide +kernel
theorem dX4_step_64 : decode cX4_step 64 = .ok (.aload_n 0, 1) := by decide +kernel
theorem dX4_step_65 : decode cX4_step 65 = .ok (.invokevirtual 74, 3) := by decide +kernel
theorem dX4_step_68 : decode cX4_step 68 = .ok (.ireturn, 1) := by decide +kernel
theorem dX4_step_69 : decode cX4_step 69 = .ok (.aload_n 0, 1) := by decide +kernel
theorem dX4_step_70 : decode cX4_step 70 = .ok (.iconst 4, 1) := by decide +kernel
theorem dX4_step_71 : decode cX4_step 71 = .ok (.invokevirtual 78, 3) := by decide +kernel
theorem dX4_step_74 : decode cX4_step 74 = .ok (.ireturn, 1) := by decide +kernel
theorem dX4_step_75 : decode cX4_step 75 = .ok (.aload_n 0, 1) := by decide +kernel
theorem dX4_step_76 : decode cX4_step 76 = .ok (.iconst 3, 1) := by decide +kernel
theorem dX4_step_77 : decode cX4_step 77 = .ok (.invokevirtual 78, 3) := by decide +kernel
theorem dX4_step_80 : decode cX4_step 80 = .ok (.ireturn, 1) := by decide +kernel
theorem dX4_step_81 : decode cX4_step 81 = .ok (.aload_n 0, 1) := by decide +kernel
theorem dX4_step_82 : decode cX4_step 82 = .ok (.invokevirtual 81, 3) := by decide +kernel
theorem dX4_step_85 : decode cX4_step 85 = .ok (.ireturn, 1) := by decide +kernel
theorem dX4_step_86 : decode cX4_step 86 = .ok (.aload_n 0, 1) := by decide +kernel
theorem dX4_step_87 : decode cX4_step 87 = .ok (.invokevirtual 84, 3) := by decide +kernel
theorem dX4_step_90 : decode cX4_step 90 = .ok (.ireturn, 1) := by decide +kernel
theorem dX4_step_91 : decode cX4_step 91 = .ok (.aload_n 0, 1) := by decide +kernel
theorem dX4_step_92 : decode cX4_step 92 = .ok (.invokevirtual 87, 3) := by decide +kernel
theorem dX4_step_95 : decode cX4_step 95 = .ok (.ireturn, 1) := by decide +kernel
theorem dX4_step_96 : decode cX4_step 96 = .ok (.aload_n 0, 1) := by decide +kernel
theorem dX4_step_97 : decode cX4_step 97 = .ok (.invokevirtual 90, 3) := by decide +kernel
theorem dX4_step_100 : decode cX4_step 100 = .ok (.ireturn, 1) := by decide +kernel
theorem dX4_step_101 : decode cX4_step 101 = .ok (.aload_n 0, 1) := by decide +kernel
theorem dX4_step_102 : decode cX4_step 102 = .ok (.invokevirtual 93, 3) := by decide +kernel
theorem dX4_step_105 : decode cX4_step 105 = .ok (.ireturn, 1) := by decide +kernel
theorem dX4_step_106 : decode cX4_step 106 = .ok (.aload_n 0, 1) := by decide +kernel
theorem dX4_step_107 : decode cX4_step 107 = .ok (.invokevirtual 96, 3) := by decide +kernel
theorem dX4_step_110 : decode cX4_step 110 = .ok (.ireturn, 1) := by decide +kernel
theorem dX4_step_111 : decode cX4_step 111 = .ok (.aload_n 0, 1) := by decide +kernel
theorem dX4_step_112 : decode cX4_step 112 = .ok (.invokevirtual 99, 3) := by decide +kernel
theorem dX4_step_115 : decode cX4_step 115 = .ok (.ireturn, 1) := by decide +kernel
theorem dX4_step_116 : decode cX4_step 116 = .ok (.aload_n 0, 1) := by decide +kernel
theorem dX4_step_117 : decode cX4_step 117 = .ok (.invokevirtual 102, 3) := by decide +kernel
theorem dX4_step_120 : decode cX4_step 120 = .ok (.ireturn, 1) := by decide +kernel
theorem dX4_step_121 : decode cX4_step 121 = .ok (.aload_n 0, 1) := by decide +kernel
theorem dX4_step_122 : decode cX4_step 122 = .ok (.invokevirtual 105, 3) := by decide +kernel
theorem dX4_step_125 : decode cX4_step 125 = .ok (.ireturn, 1) := by decide +kernel
theorem dX4_step_126 : decode cX4_step 126 = .ok (.bipush 12, 2) := by decide +kernel
theorem dX4_step_128 : decode cX4_step 128 = .ok (.ireturn, 1) := by decide +kernel
theorem dX4_readChange_0 : decode cX4_readChange 0 = .ok (.aload_n 0, 1) := by decide +kernel
theorem dX4_readChange_1 : decode cX4_readChange 1 = .ok (.getfield 28, 3) := by decide +kernel
theorem dX4_readChange_4 : decode cX4_readChange 4 = .ok (.getfield 108, 3) := by decide +kernel
theorem dX4_readChange_7 : decode cX4_readChange 7 = .ok (.istore_n 1, 1) := by decide +kernel
theorem dX4_readChange_8 : decode cX4_readChange 8 = .ok (.iload_n 1, 1) := by decide +kernel
theorem dX4_readChange_9 : decode cX4_readChange 9 = .ok (.iconst 5, 1) := by decide +kernel
theorem dX4_readChange_10 : decode cX4_readChange 10 = .ok (.if_icmp .eq 21, 3) := by decide +kernel
theorem dX4_readChange_13 : decode cX4_readChange 13 = .ok (.iload_n 1, 1) := by decide +kernel
theorem dX4_readChange_14 : decode cX4_readChange 14 = .ok (.bipush 6, 2) := by decide +kernel
theorem dX4_readChange_16 : decode cX4_readChange 16 = .ok (.if_icmp .eq 15, 3) := by decide +kernel
theorem dX4_readChange_19 : decode cX4_readChange 19 = .ok (.iload_n 1, 1) := by decide +kernel
theorem dX4_readChange_20 : decode cX4_readChange 20 = .ok (.bipush 7, 2) := by decide +kernel
theorem dX4_readChange_22 : decode cX4_readChange 22 = .ok (.if_icmp .eq 9, 3) := by decide +kernel
theorem dX4_readChange_25 : decode cX4_readChange 25 = .ok (.aload_n 0, 1) := by decide +kernel
theorem dX4_readChange_26 : decode cX4_readChange 26 = .ok (.iconst 1, 1) := by decide +kernel
theorem dX4_readChange_27 : decode cX4_readChange 27 = .ok (.invokevirtual 111, 3) := by decide +kernel
theorem dX4_readChange_30 : decode cX4_readChange 30 = .ok (.ireturn, 1) := by decide +kernel
theorem dX4_readChange_31 : decode cX4_readChange 31 = .ok (.aload_n 0, 1) := by decide +kernel
theorem dX4_readChange_32 : decode cX4_readChange 32 = .ok (.getfield 52, 3) := by decide +kernel
theorem dX4_readChange_35 : decode cX4_readChange 35 = .ok (.bipush 12, 2) := by decide +kernel
theorem dX4_readChange_37 : decode cX4_readChange 37 = .ok (.if_icmp .lt 9, 3) := by decide +kernel
theorem dX4_readChange_40 : decode cX4_readChange 40 = .ok (.aload_n 0, 1) := by decide +kernel
theorem dX4_readChange_41 : decode cX4_readChange 41 = .ok (.iconst 4, 1) := by decide +kernel
theorem dX4_readChange_42 : decode cX4_readChange 42 = .ok (.invokevirtual 111, 3) := by decide +kernel
theorem dX4_readChange_45 : decode cX4_readChange 45 = .ok (.ireturn, 1) := by decide +kernel
theorem dX4_readChange_46 : decode cX4_readChange 46 = .ok (.aload_n 0, 1) := by decide +kernel
theorem dX4_readChange_47 : decode cX4_readChange 47 = .ok (.getfield 18, 3) := by decide +kernel
theorem dX4_readChange_50 : decode cX4_readChange 50 = .ok (.aload_n 0, 1) := by decide +kernel
theorem dX4_readChange_51 : decode cX4_readChange 51 = .ok (.getfield 52, 3) := by decide +kernel
theorem dX4_readChange_54 : decode cX4_readChange 54 = .ok (.iload_n 1, 1) := by decide +kernel
theorem dX4_readChange_55 : decode cX4_readChange 55 = .ok (.iastore, 1) := by decide +kernel
theorem dX4_readChange_56 : decode cX4_readChange 56 = .ok (.aload_n 0, 1) := by decide +kernel
theorem dX4_readChange_57 : decode cX4_readChange 57 = .ok (.getfield 22, 3) := by decide +kernel
theorem dX4_readChange_60 : decode cX4_readChange 60 = .ok (.aload_n 0, 1) := by decide +kernel
theorem dX4_readChange_61 : decode cX4_readChange 61 = .ok (.getfield 52, 3) := by decide +kernel
theorem dX4_readChange_64 : decode cX4_readChange 64 = .ok (.iconst 0, 1) := by decide +kernel
theorem dX4_readChange_65 : decode cX4_readChange 65 = .ok (.iastore, 1) := by decide +kernel
theorem dX4_readChange_66 : decode cX4_readChange 66 = .ok (.aload_n 0, 1) := by decide +kernel
theorem dX4_readChange_67 : decode cX4_readChange 67 = .ok (.dup, 1) := by decide +kernel
theorem dX4_readChange_68 : decode cX4_readChange 68 = .ok (.getfield 52, 3) := by decide +kernel
theorem dX4_readChange_71 : decode cX4_readChange 71 = .ok (.iconst 1, 1) := by decide +kernel
theorem dX4_readChange_72 : decode cX4_readChange 72 = .ok (.iadd, 1) := by decide +kernel
theorem dX4_readChange_73 : decode cX4_readChange 73 = .ok (.putfield 52, 3) := by decide +kernel
theorem dX4_readChange_76 : decode cX4_readChange 76 = .ok (.aload_n 0, 1) := by decide +kernel
theorem dX4_readChange_77 : decode cX4_readChange 77 = .ok (.iconst 0, 1) := by decide +kernel
theorem dX4_readChange_78 : decode cX4_readChange 78 = .ok (.putfield 114, 3) := by decide +kernel
theorem dX4_readChange_81 : decode cX4_readChange 81 = .ok (.iload_n 1, 1) := by decide +kernel
theorem dX4_readChange_82 : decode cX4_readChange 82 = .ok (.bipush 7, 2) := by decide +kernel
theorem dX4_readChange_84 : decode cX4_readChange 84 = .ok (.if_icmp .ne 6, 3) := by decide +kernel
theorem dX4_readChange_87 : decode cX4_readChange 87 = .ok (.bipush 8, 2) := by decide +kernel
theorem dX4_readChange_89 : decode cX4_readChange 89 = .ok (.ireturn, 1) := by decide +kernel
theorem dX4_readChange_90 : decode cX4_readChange 90 = .ok (.iload_n 1, 1) := by decide +kernel
theorem dX4_readChange_91 : decode cX4_readChange 91 = .ok (.iconst 5, 1) := by decide +kernel
theorem dX4_readChange_92 : decode cX4_readChange 92 = .ok (.if_icmp .ne 7, 3) := by decide +kernel
theorem dX4_readChange_95 : decode cX4_readChange 95 = .ok (.iconst 1, 1) := by decide +kernel
theorem dX4_readChange_96 : decode cX4_readChange 96 = .ok (.goto 4, 3) := by decide +kernel
theorem dX4_readChange_99 : decode cX4_readChange 99 = .ok (.iconst 2, 1) := by decide +kernel
theorem dX4_readChange_100 : decode cX4_readChange 100 = .ok (.ireturn, 1) := by decide +kernel
theorem dX4_readClauseNumber_0 : decode cX4_readClauseNumber 0 = .ok (.aload_n 0, 1) := by decide +kernel
theorem dX4_readClauseNumber_1 : decode cX4_readClauseNumber 1 = .ok (.getfield 28, 3) := by decide +kernel
theorem dX4_readClauseNumber_4 : decode cX4_readClauseNumber 4 = .ok (.getfield 108, 3) := by decide +kernel
theorem dX4_readClauseNumber_7 : decode cX4_readClauseNumber 7 = .ok (.iconst 2, 1) := by decide +kernel
theorem dX4_readClauseNumber_8 : decode cX4_readClauseNumber 8 = .ok (.if_icmp .eq 9, 3) := by decide +kernel
theorem dX4_readClauseNumber_11 : decode cX4_readClauseNumber 11 = .ok (.aload_n 0, 1) := by decide +kernel
theorem dX4_readClauseNumber_12 : decode cX4_readClauseNumber 12 = .ok (.iconst 1, 1) := by decide +kernel
theorem dX4_readClauseNumber_13 : decode cX4_readClauseNumber 13 = .ok (.invokevirtual 111, 3) := by decide +kernel
theorem dX4_readClauseNumber_16 : decode cX4_readClauseNumber 16 = .ok (.ireturn, 1) := by decide +kernel
theorem dX4_readClauseNumber_17 : decode cX4_readClauseNumber 17 = .ok (.aload_n 0, 1) := by decide +kernel
theorem dX4_readClauseNumber_18 : decode cX4_readClauseNumber 18 = .ok (.getfield 28, 3) := by decide +kernel
theorem dX4_readClauseNumber_21 : decode cX4_readClauseNumber 21 = .ok (.getfield 117, 3) := by decide +kernel
theorem dX4_readClauseNumber_24 : decode cX4_readClauseNumber 24 = .ok (.iconst 1, 1) := by decide +kernel
theorem dX4_readClauseNumber_25 : decode cX4_readClauseNumber 25 = .ok (.if_icmp .lt 15, 3) := by decide +kernel
theorem dX4_readClauseNumber_28 : decode cX4_readClauseNumber 28 = .ok (.aload_n 0, 1) := by decide +kernel
theorem dX4_readClauseNumber_29 : decode cX4_readClauseNumber 29 = .ok (.getfield 28, 3) := by decide +kernel
theorem dX4_readClauseNumber_32 : decode cX4_readClauseNumber 32 = .ok (.getfield 117, 3) := by decide +kernel
theorem dX4_readClauseNumber_35 : decode cX4_readClauseNumber 35 = .ok (.bipush 12, 2) := by decide +kernel
theorem dX4_readClauseNumber_37 : decode cX4_readClauseNumber 37 = .ok (.if_icmp .le 9, 3) := by decide +kernel
theorem dX4_readClauseNumber_40 : decode cX4_readClauseNumber 40 = .ok (.aload_n 0, 1) := by decide +kernel
theorem dX4_readClauseNumber_41 : decode cX4_readClauseNumber 41 = .ok (.iconst 3, 1) := by decide +kernel
theorem dX4_readClauseNumber_42 : decode cX4_readClauseNumber 42 = .ok (.invokevirtual 111, 3) := by decide +kernel
theorem dX4_readClauseNumber_45 : decode cX4_readClauseNumber 45 = .ok (.ireturn, 1) := by decide +kernel
theorem dX4_readClauseNumber_46 : decode cX4_readClauseNumber 46 = .ok (.aload_n 0, 1) := by decide +kernel
theorem dX4_readClauseNumber_47 : decode cX4_readClauseNumber 47 = .ok (.getfield 52, 3) := by decide +kernel
theorem dX4_readClauseNumber_50 : decode cX4_readClauseNumber 50 = .ok (.ifCond .le 21, 3) := by decide +kernel
theorem dX4_readClauseNumber_53 : decode cX4_readClauseNumber 53 = .ok (.aload_n 0, 1) := by decide +kernel
theorem dX4_readClauseNumber_54 : decode cX4_readClauseNumber 54 = .ok (.getfield 22, 3) := by decide +kernel
theorem dX4_readClauseNumber_57 : decode cX4_readClauseNumber 57 = .ok (.aload_n 0, 1) := by decide +kernel
theorem dX4_readClauseNumber_58 : decode cX4_readClauseNumber 58 = .ok (.getfield 52, 3) := by decide +kernel
theorem dX4_readClauseNumber_61 : decode cX4_readClauseNumber 61 = .ok (.iconst 1, 1) := by decide +kernel
theorem dX4_readClauseNumber_62 : decode cX4_readClauseNumber 62 = .ok (.isub, 1) := by decide +kernel
theorem dX4_readClauseNumber_63 : decode cX4_readClauseNumber 63 = .ok (.aload_n 0, 1) := by decide +kernel
theorem dX4_readClauseNumber_64 : decode cX4_readClauseNumber 64 = .ok (.getfield 28, 3) := by decide +kernel
theorem dX4_readClauseNumber_67 : decode cX4_readClauseNumber 67 = .ok (.getfield 117, 3) := by decide +kernel
theorem dX4_readClauseNumber_70 : decode cX4_readClauseNumber 70 = .ok (.iastore, 1) := by decide +kernel
theorem dX4_readClauseNumber_71 : decode cX4_readClauseNumber 71 = .ok (.iload_n 1, 1) := by decide +kernel
theorem dX4_readClauseNumber_72 : decode cX4_readClauseNumber 72 = .ok (.ireturn, 1) := by decide +kernel
theorem dX4_readBehindChange_0 : decode cX4_readBehindChange 0 = .ok (.aload_n 0, 1) := by decide +kernel
theorem dX4_readBehindChange_1 : decode cX4_readBehindChange 1 = .ok (.getfield 28, 3) := by decide +kernel
theorem dX4_readBehindChange_4 : decode cX4_readBehindChange 4 = .ok (.getfield 108, 3) := by decide +kernel
theorem dX4_readBehindChange_7 : decode cX4_readBehindChange 7 = .ok (.bipush 59, 2) := by decide +kernel
theorem dX4_readBehindChange_9 : decode cX4_readBehindChange 9 = .ok (.if_icmp .eq 19, 3) := by decide +kernel
theorem dX4_readBehindChange_12 : decode cX4_readBehindChange 12 = .ok (.aload_n 0, 1) := by decide +kernel
theorem dX4_readBehindChange_13 : decode cX4_readBehindChange 13 = .ok (.getfield 28, 3) := by decide +kernel
theorem dX4_readBehindChange_16 : decode cX4_readBehindChange 16 = .ok (.getfield 108, 3) := by decide +kernel
theorem dX4_readBehindChange_19 : decode cX4_readBehindChange 19 = .ok (.ifCond .eq 9, 3) := by decide +kernel
theorem dX4_readBehindChange_22 : decode cX4_readBehindChange 22 = .ok (.aload_n 0, 1) := by decide +kernel
theorem dX4_readBehindChange_23 : decode cX4_readBehindChange 23 = .ok (.iconst 1, 1) := by decide +kernel
theorem dX4_readBehindChange_24 : decode cX4_readBehindChange 24 = .ok (.invokevirtual 111, 3) := by decide +kernel
theorem dX4_readBehindChange_27 : decode cX4_readBehindChange 27 = .ok (.ireturn, 1) := by decide +kernel
theorem dX4_readBehindChange_28 : decode cX4_readBehindChange 28 = .ok (.aload_n 0, 1) := by decide +kernel
theorem dX4_readBehindChange_29 : decode cX4_readBehindChange 29 = .ok (.getfield 52, 3) := by decide +kernel
theorem dX4_readBehindChange_32 : decode cX4_readBehindChange 32 = .ok (.ifCond .le 21, 3) := by decide +kernel
theorem dX4_readBehindChange_35 : decode cX4_readBehindChange 35 = .ok (.aload_n 0, 1) := by decide +kernel
theorem dX4_readBehindChange_36 : decode cX4_readBehindChange 36 = .ok (.getfield 25, 3) := by decide +kernel
theorem dX4_readBehindChange_39 : decode cX4_readBehindChange 39 = .ok (.aload_n 0, 1) := by decide +kernel
theorem dX4_readBehindChange_40 : decode cX4_readBehindChange 40 = .ok (.getfield 52, 3) := by decide +kernel
theorem dX4_readBehindChange_43 : decode cX4_readBehindChange 43 = .ok (.iconst 1, 1) := by decide +kernel
theorem dX4_readBehindChange_44 : decode cX4_readBehindChange 44 = .ok (.isub, 1) := by decide +kernel
theorem dX4_readBehindChange_45 : decode cX4_readBehindChange 45 = .ok (.aload_n 0, 1) := by decide +kernel
theorem dX4_readBehindChange_46 : decode cX4_readBehindChange 46 = .ok (.getfield 12, 3) := by decide +kernel
theorem dX4_readBehindChange_49 : decode cX4_readBehindChange 49 = .ok (.getfield 120, 3) := by decide +kernel
theorem dX4_readBehindChange_52 : decode cX4_readBehindChange 52 = .ok (.iastore, 1) := by decide +kernel
theorem dX4_readBehindChange_53 : decode cX4_readBehindChange 53 = .ok (.aload_n 0, 1) := by decide +kernel
theorem dX4_readBehindChange_54 : decode cX4_readBehindChange 54 = .ok (.getfield 28, 3) := by decide +kernel
theorem dX4_readBehindChange_57 : decode cX4_readBehindChange 57 = .ok (.getfield 108, 3) := by decide +kernel
theorem dX4_readBehindChange_60 : decode cX4_readBehindChange 60 = .ok (.ifCond .ne 8, 3) := by decide +kernel
theorem dX4_readBehindChange_63 : decode cX4_readBehindChange 63 = .ok (.bipush 12, 2) := by decide +kernel
theorem dX4_readBehindChange_65 : decode cX4_readBehindChange 65 = .ok (.goto 4, 3) := by decide +kernel
theorem dX4_readBehindChange_68 : decode cX4_readBehindChange 68 = .ok (.iconst 0, 1) := by decide +kernel
theorem dX4_readBehindChange_69 : decode cX4_readBehindChange 69 = .ok (.ireturn, 1) := by decide +kernel
end
section
theorem dX4_readOne_0 : decode cX4_readOne 0 = .ok (.aload_n 0, 1) := by decide +kernel
theorem dX4_readOne_1 : decode cX4_readOne 1 = .ok (.getfield 28, 3) := by decide +kernel
theorem dX4_readOne_4 : decode cX4_readOne 4 = .ok (.getfield 108, 3) := by decide +kernel
theorem dX4_readOne_7 : decode cX4_readOne 7 = .ok (.lookupswitch 159 #[(4, 114), (10, 33), (40, 71)], 33) := by decide +kernel
theorem dX4_readOne_40 : decode cX4_readOne 40 = .ok (.aload_n 0, 1) := by decide +kernel
theorem dX4_readOne_41 : decode cX4_readOne 41 = .ok (.dup, 1) := by decide +kernel
theorem dX4_readOne_42 : decode cX4_readOne 42 = .ok (.getfield 71, 3) := by decide +kernel
theorem dX4_readOne_45 : decode cX4_readOne 45 = .ok (.iconst 1, 1) := by decide +kernel
theorem dX4_readOne_46 : decode cX4_readOne 46 = .ok (.iadd, 1) := by decide +kernel
theorem dX4_readOne_47 : decode cX4_readOne 47 = .ok (.putfield 71, 3) := by decide +kernel
theorem dX4_readOne_50 : decode cX4_readOne 50 = .ok (.aload_n 0, 1) := by decide +kernel
theorem dX4_readOne_51 : decode cX4_readOne 51 = .ok (.getfield 12, 3) := by decide +kernel
theorem dX4_readOne_54 : decode cX4_readOne 54 = .ok (.bipush 10, 2) := by decide +kernel
theorem dX4_readOne_56 : decode cX4_readOne 56 = .ok (.invokevirtual 123, 3) := by decide +kernel
theorem dX4_readOne_59 : decode cX4_readOne 59 = .ok (.aload_n 0, 1) := by decide +kernel
theorem dX4_readOne_60 : decode cX4_readOne 60 = .ok (.getfield 71, 3) := by decide +kernel
theorem dX4_readOne_63 : decode cX4_readOne 63 = .ok (.bipush 8, 2) := by decide +kernel
theorem dX4_readOne_65 : decode cX4_readOne 65 = .ok (.if_icmp .le 11, 3) := by decide +kernel
theorem dX4_readOne_68 : decode cX4_readOne 68 = .ok (.aload_n 0, 1) := by decide +kernel
theorem dX4_readOne_69 : decode cX4_readOne 69 = .ok (.iconst 4, 1) := by decide +kernel
theorem dX4_readOne_70 : decode cX4_readOne 70 = .ok (.invokevirtual 111, 3) := by decide +kernel
theorem dX4_readOne_73 : decode cX4_readOne 73 = .ok (.goto 4, 3) := by decide +kernel
theorem dX4_readOne_76 : decode cX4_readOne 76 = .ok (.iconst 4, 1) := by decide +kernel
theorem dX4_readOne_77 : decode cX4_readOne 77 = .ok (.ireturn, 1) := by decide +kernel
theorem dX4_readOne_78 : decode cX4_readOne 78 = .ok (.aload_n 0, 1) := by decide +kernel
theorem dX4_readOne_79 : decode cX4_readOne 79 = .ok (.iconst 0, 1) := by decide +kernel
theorem dX4_readOne_80 : decode cX4_readOne 80 = .ok (.putfield 71, 3) := by decide +kernel
theorem dX4_readOne_83 : decode cX4_readOne 83 = .ok (.aload_n 0, 1) := by decide +kernel
theorem dX4_readOne_84 : decode cX4_readOne 84 = .ok (.dup, 1) := by decide +kernel
theorem dX4_readOne_85 : decode cX4_readOne 85 = .ok (.getfield 68, 3) := by decide +kernel
theorem dX4_readOne_88 : decode cX4_readOne 88 = .ok (.iconst 1, 1) := by decide +kernel
theorem dX4_readOne_89 : decode cX4_readOne 89 = .ok (.iadd, 1) := by decide +kernel
theorem dX4_readOne_90 : decode cX4_readOne 90 = .ok (.putfield 68, 3) := by decide +kernel
theorem dX4_readOne_93 : decode cX4_readOne 93 = .ok (.aload_n 0, 1) := by decide +kernel
theorem dX4_readOne_94 : decode cX4_readOne 94 = .ok (.getfield 12, 3) := by decide +kernel
theorem dX4_readOne_97 : decode cX4_readOne 97 = .ok (.bipush 40, 2) := by decide +kernel
theorem dX4_readOne_99 : decode cX4_readOne 99 = .ok (.invokevirtual 123, 3) := by decide +kernel
theorem dX4_readOne_102 : decode cX4_readOne 102 = .ok (.aload_n 0, 1) := by decide +kernel
theorem dX4_readOne_103 : decode cX4_readOne 103 = .ok (.getfield 68, 3) := by decide +kernel
theorem dX4_readOne_106 : decode cX4_readOne 106 = .ok (.bipush 8, 2) := by decide +kernel
theorem dX4_readOne_108 : decode cX4_readOne 108 = .ok (.if_icmp .le 11, 3) := by decide +kernel
theorem dX4_readOne_111 : decode cX4_readOne 111 = .ok (.aload_n 0, 1) := by decide +kernel
theorem dX4_readOne_112 : decode cX4_readOne 112 = .ok (.iconst 4, 1) := by decide +kernel
theorem dX4_readOne_113 : decode cX4_readOne 113 = .ok (.invokevirtual 111, 3) := by decide +kernel
theorem dX4_readOne_116 : decode cX4_readOne 116 = .ok (.goto 4, 3) := by decide +kernel
theorem dX4_readOne_119 : decode cX4_readOne 119 = .ok (.iconst 4, 1) := by decide +kernel
theorem dX4_readOne_120 : decode cX4_readOne 120 = .ok (.ireturn, 1) := by decide +kernel
theorem dX4_readOne_121 : decode cX4_readOne 121 = .ok (.aload_n 0, 1) := by decide +kernel
theorem dX4_readOne_122 : decode cX4_readOne 122 = .ok (.iconst 0, 1) := by decide +kernel
theorem dX4_readOne_123 : decode cX4_readOne 123 = .ok (.putfield 71, 3) := by decide +kernel
theorem dX4_readOne_126 : decode cX4_readOne 126 = .ok (.aload_n 0, 1) := by decide +kernel
theorem dX4_readOne_127 : decode cX4_readOne 127 = .ok (.dup, 1) := by decide +kernel
theorem dX4_readOne_128 : decode cX4_readOne 128 = .ok (.getfield 65, 3) := by decide +kernel
theorem dX4_readOne_131 : decode cX4_readOne 131 = .ok (.iconst 1, 1) := by decide +kernel
theorem dX4_readOne_132 : decode cX4_readOne 132 = .ok (.iadd, 1) := by decide +kernel
theorem dX4_readOne_133 : decode cX4_readOne 133 = .ok (.putfield 65, 3) := by decide +kernel
theorem dX4_readOne_136 : decode cX4_readOne 136 = .ok (.aload_n 0, 1) := by decide +kernel
theorem dX4_readOne_137 : decode cX4_readOne 137 = .ok (.aload_n 0, 1) := by decide +kernel
theorem dX4_readOne_138 : decode cX4_readOne 138 = .ok (.getfield 28, 3) := by decide +kernel
theorem dX4_readOne_141 : decode cX4_readOne 141 = .ok (.getfield 117, 3) := by decide +kernel
theorem dX4_readOne_144 : decode cX4_readOne 144 = .ok (.putfield 126, 3) := by decide +kernel
theorem dX4_readOne_147 : decode cX4_readOne 147 = .ok (.aload_n 0, 1) := by decide +kernel
theorem dX4_readOne_148 : decode cX4_readOne 148 = .ok (.getfield 65, 3) := by decide +kernel
theorem dX4_readOne_151 : decode cX4_readOne 151 = .ok (.bipush 20, 2) := by decide +kernel
theorem dX4_readOne_153 : decode cX4_readOne 153 = .ok (.if_icmp .le 11, 3) := by decide +kernel
theorem dX4_readOne_156 : decode cX4_readOne 156 = .ok (.aload_n 0, 1) := by decide +kernel
theorem dX4_readOne_157 : decode cX4_readOne 157 = .ok (.iconst 4, 1) := by decide +kernel
theorem dX4_readOne_158 : decode cX4_readOne 158 = .ok (.invokevirtual 111, 3) := by decide +kernel
theorem dX4_readOne_161 : decode cX4_readOne 161 = .ok (.goto 4, 3) := by decide +kernel
theorem dX4_readOne_164 : decode cX4_readOne 164 = .ok (.iconst 5, 1) := by decide +kernel
theorem dX4_readOne_165 : decode cX4_readOne 165 = .ok (.ireturn, 1) := by decide +kernel
theorem dX4_readOne_166 : decode cX4_readOne 166 = .ok (.aload_n 0, 1) := by decide +kernel
theorem dX4_readOne_167 : decode cX4_readOne 167 = .ok (.invokevirtual 129, 3) := by decide +kernel
theorem dX4_readOne_170 : decode cX4_readOne 170 = .ok (.ireturn, 1) := by decide +kernel
theorem dX4_readSign_0 : decode cX4_readSign 0 = .ok (.aload_n 0, 1) := by decide +kernel
theorem dX4_readSign_1 : decode cX4_readSign 1 = .ok (.aload_n 0, 1) := by decide +kernel
theorem dX4_readSign_2 : decode cX4_readSign 2 = .ok (.getfield 28, 3) := by decide +kernel
theorem dX4_readSign_5 : decode cX4_readSign 5 = .ok (.getfield 108, 3) := by decide +kernel
theorem dX4_readSign_8 : decode cX4_readSign 8 = .ok (.putfield 132, 3) := by decide +kernel
theorem dX4_readSign_11 : decode cX4_readSign 11 = .ok (.aload_n 0, 1) := by decide +kernel
theorem dX4_readSign_12 : decode cX4_readSign 12 = .ok (.getfield 132, 3) := by decide +kernel
theorem dX4_readSign_15 : decode cX4_readSign 15 = .ok (.bipush 60, 2) := by decide +kernel
theorem dX4_readSign_17 : decode cX4_readSign 17 = .ok (.if_icmp .eq 21, 3) := by decide +kernel
theorem dX4_readSign_20 : decode cX4_readSign 20 = .ok (.aload_n 0, 1) := by decide +kernel
theorem dX4_readSign_21 : decode cX4_readSign 21 = .ok (.getfield 132, 3) := by decide +kernel
theorem dX4_readSign_24 : decode cX4_readSign 24 = .ok (.bipush 62, 2) := by decide +kernel
theorem dX4_readSign_26 : decode cX4_readSign 26 = .ok (.if_icmp .eq 12, 3) := by decide +kernel
theorem dX4_readSign_29 : decode cX4_readSign 29 = .ok (.aload_n 0, 1) := by decide +kernel
theorem dX4_readSign_30 : decode cX4_readSign 30 = .ok (.getfield 132, 3) := by decide +kernel
theorem dX4_readSign_33 : decode cX4_readSign 33 = .ok (.bipush 61, 2) := by decide +kernel
theorem dX4_readSign_35 : decode cX4_readSign 35 = .ok (.if_icmp .ne 8, 3) := by decide +kernel
theorem dX4_readSign_38 : decode cX4_readSign 38 = .ok (.bipush 6, 2) := by decide +kernel
theorem dX4_readSign_40 : decode cX4_readSign 40 = .ok (.goto 8, 3) := by decide +kernel
theorem dX4_readSign_43 : decode cX4_readSign 43 = .ok (.aload_n 0, 1) := by decide +kernel
theorem dX4_readSign_44 : decode cX4_readSign 44 = .ok (.iconst 1, 1) := by decide +kernel
theorem dX4_readSign_45 : decode cX4_readSign 45 = .ok (.invokevirtual 111, 3) := by decide +kernel
theorem dX4_readSign_48 : decode cX4_readSign 48 = .ok (.ireturn, 1) := by decide +kernel
theorem dX4_readValue_0 : decode cX4_readValue 0 = .ok (.aload_n 0, 1) := by decide +kernel
theorem dX4_readValue_1 : decode cX4_readValue 1 = .ok (.getfield 28, 3) := by decide +kernel
theorem dX4_readValue_4 : decode cX4_readValue 4 = .ok (.getfield 108, 3) := by decide +kernel
theorem dX4_readValue_7 : decode cX4_readValue 7 = .ok (.iconst 2, 1) := by decide +kernel
theorem dX4_readValue_8 : decode cX4_readValue 8 = .ok (.if_icmp .eq 9, 3) := by decide +kernel
theorem dX4_readValue_11 : decode cX4_readValue 11 = .ok (.aload_n 0, 1) := by decide +kernel
theorem dX4_readValue_12 : decode cX4_readValue 12 = .ok (.iconst 1, 1) := by decide +kernel
theorem dX4_readValue_13 : decode cX4_readValue 13 = .ok (.invokevirtual 111, 3) := by decide +kernel
theorem dX4_readValue_16 : decode cX4_readValue 16 = .ok (.ireturn, 1) := by decide +kernel
theorem dX4_readValue_17 : decode cX4_readValue 17 = .ok (.aload_n 0, 1) := by decide +kernel
theorem dX4_readValue_18 : decode cX4_readValue 18 = .ok (.getfield 12, 3) := by decide +kernel
theorem dX4_readValue_21 : decode cX4_readValue 21 = .ok (.aload_n 0, 1) := by decide +kernel
theorem dX4_readValue_22 : decode cX4_readValue 22 = .ok (.getfield 132, 3) := by decide +kernel
theorem dX4_readValue_25 : decode cX4_readValue 25 = .ok (.aload_n 0, 1) := by decide +kernel
theorem dX4_readValue_26 : decode cX4_readValue 26 = .ok (.getfield 126, 3) := by decide +kernel
theorem dX4_readValue_29 : decode cX4_readValue 29 = .ok (.aload_n 0, 1) := by decide +kernel
theorem dX4_readValue_30 : decode cX4_readValue 30 = .ok (.getfield 28, 3) := by decide +kernel
theorem dX4_readValue_33 : decode cX4_readValue 33 = .ok (.getfield 117, 3) := by decide +kernel
theorem dX4_readValue_36 : decode cX4_readValue 36 = .ok (.invokestatic 135, 3) := by decide +kernel
theorem dX4_readValue_39 : decode cX4_readValue 39 = .ok (.invokevirtual 140, 3) := by decide +kernel
theorem dX4_readValue_42 : decode cX4_readValue 42 = .ok (.aload_n 0, 1) := by decide +kernel
theorem dX4_readValue_43 : decode cX4_readValue 43 = .ok (.getfield 12, 3) := by decide +kernel
theorem dX4_readValue_46 : decode cX4_readValue 46 = .ok (.invokevirtual 143, 3) := by decide +kernel
theorem dX4_readValue_49 : decode cX4_readValue 49 = .ok (.bipush 7, 2) := by decide +kernel
theorem dX4_readValue_51 : decode cX4_readValue 51 = .ok (.ireturn, 1) := by decide +kernel
theorem dX4_readBehindOne_0 : decode cX4_readBehindOne 0 = .ok (.aload_n 0, 1) := by decide +kernel
theorem dX4_readBehindOne_1 : decode cX4_readBehindOne 1 = .ok (.getfield 28, 3) := by decide +kernel
theorem dX4_readBehindOne_4 : decode cX4_readBehindOne 4 = .ok (.getfield 108, 3) := by decide +kernel
theorem dX4_readBehindOne_7 : decode cX4_readBehindOne 7 = .ok (.bipush 9, 2) := by decide +kernel
theorem dX4_readBehindOne_9 : decode cX4_readBehindOne 9 = .ok (.if_icmp .eq 15, 3) := by decide +kernel
theorem dX4_readBehindOne_12 : decode cX4_readBehindOne 12 = .ok (.aload_n 0, 1) := by decide +kernel
theorem dX4_readBehindOne_13 : decode cX4_readBehindOne 13 = .ok (.getfield 28, 3) := by decide +kernel
theorem dX4_readBehindOne_16 : decode cX4_readBehindOne 16 = .ok (.getfield 108, 3) := by decide +kernel
theorem dX4_readBehindOne_19 : decode cX4_readBehindOne 19 = .ok (.bipush 8, 2) := by decide +kernel
theorem dX4_readBehindOne_21 : decode cX4_readBehindOne 21 = .ok (.if_icmp .ne 19, 3) := by decide +kernel
theorem dX4_readBehindOne_24 : decode cX4_readBehindOne 24 = .ok (.aload_n 0, 1) := by decide +kernel
theorem dX4_readBehindOne_25 : decode cX4_readBehindOne 25 = .ok (.getfield 12, 3) := by decide +kernel
theorem dX4_readBehindOne_28 : decode cX4_readBehindOne 28 = .ok (.aload_n 0, 1) := by decide +kernel
theorem dX4_readBehindOne_29 : decode cX4_readBehindOne 29 = .ok (.getfield 28, 3) := by decide +kernel
theorem dX4_readBehindOne_32 : decode cX4_readBehindOne 32 = .ok (.getfield 108, 3) := by decide +kernel
theorem dX4_readBehindOne_35 : decode cX4_readBehindOne 35 = .ok (.invokevirtual 146, 3) := by decide +kernel
theorem dX4_readBehindOne_38 : decode cX4_readBehindOne 38 = .ok (.iconst 4, 1) := by decide +kernel
theorem dX4_readBehindOne_39 : decode cX4_readBehindOne 39 = .ok (.ireturn, 1) := by decide +kernel
theorem dX4_readBehindOne_40 : decode cX4_readBehindOne 40 = .ok (.aload_n 0, 1) := by decide +kernel
theorem dX4_readBehindOne_41 : decode cX4_readBehindOne 41 = .ok (.getfield 68, 3) := by decide +kernel
theorem dX4_readBehindOne_44 : decode cX4_readBehindOne 44 = .ok (.ifCond .ne 15, 3) := by decide +kernel
theorem dX4_readBehindOne_47 : decode cX4_readBehindOne 47 = .ok (.aload_n 0, 1) := by decide +kernel
theorem dX4_readBehindOne_48 : decode cX4_readBehindOne 48 = .ok (.getfield 12, 3) := by decide +kernel
theorem dX4_readBehindOne_51 : decode cX4_readBehindOne 51 = .ok (.invokevirtual 149, 3) := by decide +kernel
theorem dX4_readBehindOne_54 : decode cX4_readBehindOne 54 = .ok (.aload_n 0, 1) := by decide +kernel
theorem dX4_readBehindOne_55 : decode cX4_readBehindOne 55 = .ok (.invokevirtual 81, 3) := by decide +kernel
theorem dX4_readBehindOne_58 : decode cX4_readBehindOne 58 = .ok (.ireturn, 1) := by decide +kernel
theorem dX4_readBehindOne_59 : decode cX4_readBehindOne 59 = .ok (.aload_n 0, 1) := by decide +kernel
theorem dX4_readBehindOne_60 : decode cX4_readBehindOne 60 = .ok (.getfield 28, 3) := by decide +kernel
theorem dX4_readBehindOne_63 : decode cX4_readBehindOne 63 = .ok (.getfield 108, 3) := by decide +kernel
theorem dX4_readBehindOne_66 : decode cX4_readBehindOne 66 = .ok (.bipush 41, 2) := by decide +kernel
theorem dX4_readBehindOne_68 : decode cX4_readBehindOne 68 = .ok (.if_icmp .eq 9, 3) := by decide +kernel
theorem dX4_readBehindOne_71 : decode cX4_readBehindOne 71 = .ok (.aload_n 0, 1) := by decide +kernel
theorem dX4_readBehindOne_72 : decode cX4_readBehindOne 72 = .ok (.iconst 1, 1) := by decide +kernel
theorem dX4_readBehindOne_73 : decode cX4_readBehindOne 73 = .ok (.invokevirtual 111, 3) := by decide +kernel
theorem dX4_readBehindOne_76 : decode cX4_readBehindOne 76 = .ok (.ireturn, 1) := by decide +kernel
theorem dX4_readBehindOne_77 : decode cX4_readBehindOne 77 = .ok (.aload_n 0, 1) := by decide +kernel
theorem dX4_readBehindOne_78 : decode cX4_readBehindOne 78 = .ok (.dup, 1) := by decide +kernel
theorem dX4_readBehindOne_79 : decode cX4_readBehindOne 79 = .ok (.getfield 68, 3) := by decide +kernel
theorem dX4_readBehindOne_82 : decode cX4_readBehindOne 82 = .ok (.iconst 1, 1) := by decide +kernel
theorem dX4_readBehindOne_83 : decode cX4_readBehindOne 83 = .ok (.isub, 1) := by decide +kernel
theorem dX4_readBehindOne_84 : decode cX4_readBehindOne 84 = .ok (.putfield 68, 3) := by decide +kernel
theorem dX4_readBehindOne_87 : decode cX4_readBehindOne 87 = .ok (.aload_n 0, 1) := by decide +kernel
theorem dX4_readBehindOne_88 : decode cX4_readBehindOne 88 = .ok (.getfield 12, 3) := by decide +kernel
theorem dX4_readBehindOne_91 : decode cX4_readBehindOne 91 = .ok (.invokevirtual 152, 3) := by decide +kernel
theorem dX4_readBehindOne_94 : decode cX4_readBehindOne 94 = .ok (.bipush 7, 2) := by decide +kernel
theorem dX4_readBehindOne_96 : decode cX4_readBehindOne 96 = .ok (.ireturn, 1) := by decide +kernel
theorem dX4_readTerm_0 : decode cX4_readTerm 0 = .ok (.aload_n 0, 1) := by decide +kernel
theorem dX4_readTerm_1 : decode cX4_readTerm 1 = .ok (.getfield 28, 3) := by decide +kernel
theorem dX4_readTerm_4 : decode cX4_readTerm 4 = .ok (.getfield 108, 3) := by decide +kernel
theorem dX4_readTerm_7 : decode cX4_readTerm 7 = .ok (.iconst 2, 1) := by decide +kernel
theorem dX4_readTerm_8 : decode cX4_readTerm 8 = .ok (.if_icmp .eq 19, 3) := by decide +kernel
theorem dX4_readTerm_11 : decode cX4_readTerm 11 = .ok (.aload_n 0, 1) := by decide +kernel
theorem dX4_readTerm_12 : decode cX4_readTerm 12 = .ok (.getfield 28, 3) := by decide +kernel
theorem dX4_readTerm_15 : decode cX4_readTerm 15 = .ok (.getfield 108, 3) := by decide +kernel
theorem dX4_readTerm_18 : decode cX4_readTerm 18 = .ok (.iconst 4, 1) := by decide +kernel
theorem dX4_readTerm_19 : decode cX4_readTerm 19 = .ok (.if_icmp .eq 8, 3) := by decide +kernel
theorem dX4_readTerm_22 : decode cX4_readTerm 22 = .ok (.aload_n 0, 1) := by decide +kernel
theorem dX4_readTerm_23 : decode cX4_readTerm 23 = .ok (.invokevirtual 129, 3) := by decide +kernel
theorem dX4_readTerm_26 : decode cX4_readTerm 26 = .ok (.ireturn, 1) := by decide +kernel
theorem dX4_readTerm_27 : decode cX4_readTerm 27 = .ok (.aload_n 0, 1) := by decide +kernel
theorem dX4_readTerm_28 : decode cX4_readTerm 28 = .ok (.dup, 1) := by decide +kernel
theorem dX4_readTerm_29 : decode cX4_readTerm 29 = .ok (.getfield 114, 3) := by decide +kernel
theorem dX4_readTerm_32 : decode cX4_readTerm 32 = .ok (.iconst 1, 1) := by decide +kernel
theorem dX4_readTerm_33 : decode cX4_readTerm 33 = .ok (.iadd, 1) := by decide +kernel
theorem dX4_readTerm_34 : decode cX4_readTerm 34 = .ok (.putfield 114, 3) := by decide +kernel
theorem dX4_readTerm_37 : decode cX4_readTerm 37 = .ok (.aload_n 0, 1) := by decide +kernel
theorem dX4_readTerm_38 : decode cX4_readTerm 38 = .ok (.getfield 114, 3) := by decide +kernel
theorem dX4_readTerm_41 : decode cX4_readTerm 41 = .ok (.iconst 4, 1) := by decide +kernel
theorem dX4_readTerm_42 : decode cX4_readTerm 42 = .ok (.if_icmp .le 9, 3) := by decide +kernel
theorem dX4_readTerm_45 : decode cX4_readTerm 45 = .ok (.aload_n 0, 1) := by decide +kernel
theorem dX4_readTerm_46 : decode cX4_readTerm 46 = .ok (.iconst 4, 1) := by decide +kernel
theorem dX4_readTerm_47 : decode cX4_readTerm 47 = .ok (.invokevirtual 111, 3) := by decide +kernel
theorem dX4_readTerm_50 : decode cX4_readTerm 50 = .ok (.ireturn, 1) := by decide +kernel
theorem dX4_readTerm_51 : decode cX4_readTerm 51 = .ok (.aload_n 0, 1) := by decide +kernel
theorem dX4_readTerm_52 : decode cX4_readTerm 52 = .ok (.getfield 28, 3) := by decide +kernel
theorem dX4_readTerm_55 : decode cX4_readTerm 55 = .ok (.getfield 108, 3) := by decide +kernel
theorem dX4_readTerm_58 : decode cX4_readTerm 58 = .ok (.iconst 2, 1) := by decide +kernel
theorem dX4_readTerm_59 : decode cX4_readTerm 59 = .ok (.if_icmp .ne 17, 3) := by decide +kernel
theorem dX4_readTerm_62 : decode cX4_readTerm 62 = .ok (.aload_n 0, 1) := by decide +kernel
theorem dX4_readTerm_63 : decode cX4_readTerm 63 = .ok (.aload_n 0, 1) := by decide +kernel
theorem dX4_readTerm_64 : decode cX4_readTerm 64 = .ok (.getfield 28, 3) := by decide +kernel
theorem dX4_readTerm_67 : decode cX4_readTerm 67 = .ok (.getfield 117, 3) := by decide +kernel
theorem dX4_readTerm_70 : decode cX4_readTerm 70 = .ok (.putfield 155, 3) := by decide +kernel
theorem dX4_readTerm_73 : decode cX4_readTerm 73 = .ok (.bipush 9, 2) := by decide +kernel
theorem dX4_readTerm_75 : decode cX4_readTerm 75 = .ok (.ireturn, 1) := by decide +kernel
theorem dX4_readTerm_76 : decode cX4_readTerm 76 = .ok (.aload_n 0, 1) := by decide +kernel
theorem dX4_readTerm_77 : decode cX4_readTerm 77 = .ok (.getfield 12, 3) := by decide +kernel
theorem dX4_readTerm_80 : decode cX4_readTerm 80 = .ok (.iconst 2, 1) := by decide +kernel
theorem dX4_readTerm_81 : decode cX4_readTerm 81 = .ok (.aload_n 0, 1) := by decide +kernel
theorem dX4_readTerm_82 : decode cX4_readTerm 82 = .ok (.getfield 28, 3) := by decide +kernel
theorem dX4_readTerm_85 : decode cX4_readTerm 85 = .ok (.getfield 117, 3) := by decide +kernel
theorem dX4_readTerm_88 : decode cX4_readTerm 88 = .ok (.iconst 1, 1) := by decide +kernel
theorem dX4_readTerm_89 : decode cX4_readTerm 89 = .ok (.invokestatic 135, 3) := by decide +kernel
theorem dX4_readTerm_92 : decode cX4_readTerm 92 = .ok (.invokevirtual 140, 3) := by decide +kernel
theorem dX4_readTerm_95 : decode cX4_readTerm 95 = .ok (.bipush 11, 2) := by decide +kernel
theorem dX4_readTerm_97 : decode cX4_readTerm 97 = .ok (.ireturn, 1) := by decide +kernel
theorem dX4_readBehindNumber_0 : decode cX4_readBehindNumber 0 = .ok (.aload_n 0, 1) := by decide +kernel
theorem dX4_readBehindNumber_1 : decode cX4_readBehindNumber 1 = .ok (.getfield 28, 3) := by decide +kernel
theorem dX4_readBehindNumber_4 : decode cX4_readBehindNumber 4 = .ok (.getfield 108, 3) := by decide +kernel
theorem dX4_readBehindNumber_7 : decode cX4_readBehindNumber 7 = .ok (.bipush 42, 2) := by decide +kernel
theorem dX4_readBehindNumber_9 : decode cX4_readBehindNumber 9 = .ok (.if_icmp .ne 6, 3) := by decide +kernel
theorem dX4_readBehindNumber_12 : decode cX4_readBehindNumber 12 = .ok (.bipush 10, 2) := by decide +kernel
theorem dX4_readBehindNumber_14 : decode cX4_readBehindNumber 14 = .ok (.ireturn, 1) := by decide +kernel
theorem dX4_readBehindNumber_15 : decode cX4_readBehindNumber 15 = .ok (.aload_n 0, 1) := by decide +kernel
theorem dX4_readBehindNumber_16 : decode cX4_readBehindNumber 16 = .ok (.getfield 12, 3) := by decide +kernel
theorem dX4_readBehindNumber_19 : decode cX4_readBehindNumber 19 = .ok (.iconst 2, 1) := by decide +kernel
theorem dX4_readBehindNumber_20 : decode cX4_readBehindNumber 20 = .ok (.iconst 5, 1) := by decide +kernel
theorem dX4_readBehindNumber_21 : decode cX4_readBehindNumber 21 = .ok (.aload_n 0, 1) := by decide +kernel
theorem dX4_readBehindNumber_22 : decode cX4_readBehindNumber 22 = .ok (.getfield 155, 3) := by decide +kernel
theorem dX4_readBehindNumber_25 : decode cX4_readBehindNumber 25 = .ok (.invokestatic 135, 3) := by decide +kernel
theorem dX4_readBehindNumber_28 : decode cX4_readBehindNumber 28 = .ok (.invokevirtual 140, 3) := by decide +kernel
theorem dX4_readBehindNumber_31 : decode cX4_readBehindNumber 31 = .ok (.aload_n 0, 1) := by decide +kernel
theorem dX4_readBehindNumber_32 : decode cX4_readBehindNumber 32 = .ok (.invokevirtual 105, 3) := by decide +kernel
theorem dX4_readBehindNumber_35 : decode cX4_readBehindNumber 35 = .ok (.ireturn, 1) := by decide +kernel
theorem dX4_readFactor_0 : decode cX4_readFactor 0 = .ok (.aload_n 0, 1) := by decide +kernel
theorem dX4_readFactor_1 : decode cX4_readFactor 1 = .ok (.getfield 28, 3) := by decide +kernel
theorem dX4_readFactor_4 : decode cX4_readFactor 4 = .ok (.getfield 108, 3) := by decide +kernel
theorem dX4_readFactor_7 : decode cX4_readFactor 7 = .ok (.iconst 4, 1) := by decide +kernel
theorem dX4_readFactor_8 : decode cX4_readFactor 8 = .ok (.if_icmp .eq 8, 3) := by decide +kernel
theorem dX4_readFactor_11 : decode cX4_readFactor 11 = .ok (.aload_n 0, 1) := by decide +kernel
theorem dX4_readFactor_12 : decode cX4_readFactor 12 = .ok (.invokevirtual 129, 3) := by decide +kernel
theorem dX4_readFactor_15 : decode cX4_readFactor 15 = .ok (.ireturn, 1) := by decide +kernel
theorem dX4_readFactor_16 : decode cX4_readFactor 16 = .ok (.aload_n 0, 1) := by decide +kernel
theorem dX4_readFactor_17 : decode cX4_readFactor 17 = .ok (.getfield 12, 3) := by decide +kernel
theorem dX4_readFactor_20 : decode cX4_readFactor 20 = .ok (.iconst 2, 1) := by decide +kernel
theorem dX4_readFactor_21 : decode cX4_readFactor 21 = .ok (.aload_n 0, 1) := by decide +kernel
theorem dX4_readFactor_22 : decode cX4_readFactor 22 = .ok (.getfield 28, 3) := by decide +kernel
theorem dX4_readFactor_25 : decode cX4_readFactor 25 = .ok (.getfield 117, 3) := by decide +kernel
theorem dX4_readFactor_28 : decode cX4_readFactor 28 = .ok (.aload_n 0, 1) := by decide +kernel
theorem dX4_readFactor_29 : decode cX4_readFactor 29 = .ok (.getfield 155, 3) := by decide +kernel
theorem dX4_readFactor_32 : decode cX4_readFactor 32 = .ok (.invokestatic 135, 3) := by decide +kernel
theorem dX4_readFactor_35 : decode cX4_readFactor 35 = .ok (.invokevirtual 140, 3) := by decide +kernel
theorem dX4_readFactor_38 : decode cX4_readFactor 38 = .ok (.bipush 11, 2) := by decide +kernel
theorem dX4_readFactor_40 : decode cX4_readFactor 40 = .ok (.ireturn, 1) := by decide +kernel
theorem dX4_readBehindTerm_0 : decode cX4_readBehindTerm 0 = .ok (.aload_n 0, 1) := by decide +kernel
theorem dX4_readBehindTerm_1 : decode cX4_readBehindTerm 1 = .ok (.getfield 28, 3) := by decide +kernel
theorem dX4_readBehindTerm_4 : decode cX4_readBehindTerm 4 = .ok (.getfield 108, 3) := by decide +kernel
theorem dX4_readBehindTerm_7 : decode cX4_readBehindTerm 7 = .ok (.bipush 43, 2) := by decide +kernel
theorem dX4_readBehindTerm_9 : decode cX4_readBehindTerm 9 = .ok (.if_icmp .ne 8, 3) := by decide +kernel
theorem dX4_readBehindTerm_12 : decode cX4_readBehindTerm 12 = .ok (.bipush 8, 2) := by decide +kernel
theorem dX4_readBehindTerm_14 : decode cX4_readBehindTerm 14 = .ok (.goto 7, 3) := by decide +kernel
theorem dX4_readBehindTerm_17 : decode cX4_readBehindTerm 17 = .ok (.aload_n 0, 1) := by decide +kernel
theorem dX4_readBehindTerm_18 : decode cX4_readBehindTerm 18 = .ok (.invokevirtual 81, 3) := by decide +kernel
theorem dX4_readBehindTerm_21 : decode cX4_readBehindTerm 21 = .ok (.ireturn, 1) := by decide +kernel
theorem dX4_noName_0 : decode cX4_noName 0 = .ok (.aload_n 0, 1) := by decide +kernel
theorem dX4_noName_1 : decode cX4_noName 1 = .ok (.aload_n 0, 1) := by decide +kernel
theorem dX4_noName_2 : decode cX4_noName 2 = .ok (.getfield 28, 3) := by decide +kernel
theorem dX4_noName_5 : decode cX4_noName 5 = .ok (.getfield 108, 3) := by decide +kernel
theorem dX4_noName_8 : decode cX4_noName 8 = .ok (.iconst 3, 1) := by decide +kernel
theorem dX4_noName_9 : decode cX4_noName 9 = .ok (.if_icmp .ne 7, 3) := by decide +kernel
theorem dX4_noName_12 : decode cX4_noName 12 = .ok (.iconst 2, 1) := by decide +kernel
theorem dX4_noName_13 : decode cX4_noName 13 = .ok (.goto 4, 3) := by decide +kernel
theorem dX4_noName_16 : decode cX4_noName 16 = .ok (.iconst 1, 1) := by decide +kernel
theorem dX4_noName_17 : decode cX4_noName 17 = .ok (.invokevirtual 111, 3) := by decide +kernel
theorem dX4_noName_20 : decode cX4_noName 20 = .ok (.ireturn, 1) := by decide +kernel
theorem dX4_faulty_0 : decode cX4_faulty 0 = .ok (.aload_n 0, 1) := by decide +kernel
theorem dX4_faulty_1 : decode cX4_faulty 1 = .ok (.iload_n 1, 1) := by decide +kernel
theorem dX4_faulty_2 : decode cX4_faulty 2 = .ok (.putfield 48, 3) := by decide +kernel
theorem dX4_faulty_5 : decode cX4_faulty 5 = .ok (.bipush 12, 2) := by decide +kernel
theorem dX4_faulty_7 : decode cX4_faulty 7 = .ok (.ireturn, 1) := by decide +kernel
theorem dX5_init_0 : decode cX5_init 0 = .ok (.aload_n 0, 1) := by decide +kernel
theorem dX5_init_1 : decode cX5_init 1 = .ok (.invokespecial 3, 3) := by decide +kernel
theorem dX5_init_4 : decode cX5_init 4 = .ok (.aload_n 0, 1) := by decide +kernel
theorem dX5_init_5 : decode cX5_init 5 = .ok (.bipush (-2), 2) := by decide +kernel
theorem dX5_init_7 : decode cX5_init 7 = .ok (.putfield 9, 3) := by decide +kernel
theorem dX5_init_10 : decode cX5_init 10 = .ok (.aload_n 0, 1) := by decide +kernel
theorem dX5_init_11 : decode cX5_init 11 = .ok (.iload_n 1, 1) := by decide +kernel
theorem dX5_init_12 : decode cX5_init 12 = .ok (.putfield 15, 3) := by decide +kernel
theorem dX5_init_15 : decode cX5_init 15 = .ok (.return_, 1) := by decide +kernel
theorem dX6_init_0 : decode cX6_init 0 = .ok (.aload_n 0, 1) := by decide +kernel
theorem dX6_init_1 : decode cX6_init 1 = .ok (.invokespecial 3, 3) := by decide +kernel
theorem dX6_init_4 : decode cX6_init 4 = .ok (.aload_n 0, 1) := by decide +kernel
theorem dX6_init_5 : decode cX6_init 5 = .ok (.bipush 13, 2) := by decide +kernel
theorem dX6_init_7 : decode cX6_init 7 = .ok (.anewarray 9, 3) := by decide +kernel
theorem dX6_init_10 : decode cX6_init 10 = .ok (.putfield 11, 3) := by decide +kernel
theorem dX6_init_13 : decode cX6_init 13 = .ok (.return_, 1) := by decide +kernel
theorem dX6_settle_0 : decode cX6_settle 0 = .ok (.iconst 0, 1) := by decide +kernel
theorem dX6_settle_1 : decode cX6_settle 1 = .ok (.istore 4, 2) := by decide +kernel
theorem dX6_settle_3 : decode cX6_settle 3 = .ok (.iload 4, 2) := by decide +kernel
theorem dX6_settle_5 : decode cX6_settle 5 = .ok (.aload_n 0, 1) := by decide +kernel
theorem dX6_settle_6 : decode cX6_settle 6 = .ok (.getfield 11, 3) := by decide +kernel
theorem dX6_settle_9 : decode cX6_settle 9 = .ok (.arraylength, 1) := by decide +kernel
theorem dX6_settle_10 : decode cX6_settle 10 = .ok (.if_icmp .ge 17, 3) := by decide +kernel
theorem dX6_settle_13 : decode cX6_settle 13 = .ok (.aload_n 0, 1) := by decide +kernel
theorem dX6_settle_14 : decode cX6_settle 14 = .ok (.getfield 11, 3) := by decide +kernel
theorem dX6_settle_17 : decode cX6_settle 17 = .ok (.iload 4, 2) := by decide +kernel
theorem dX6_settle_19 : decode cX6_settle 19 = .ok (.aconst_null, 1) := by decide +kernel
theorem dX6_settle_20 : decode cX6_settle 20 = .ok (.aastore, 1) := by decide +kernel
theorem dX6_settle_21 : decode cX6_settle 21 = .ok (.iinc 4 1, 3) := by decide +kernel
theorem dX6_settle_24 : decode cX6_settle 24 = .ok (.goto (-21), 3) := by decide +kernel
theorem dX6_settle_27 : decode cX6_settle 27 = .ok (.iconst 0, 1) := by decide +kernel
theorem dX6_settle_28 : decode cX6_settle 28 = .ok (.istore 4, 2) := by decide +kernel
theorem dX6_settle_30 : decode cX6_settle 30 = .ok (.iload 4, 2) := by decide +kernel
theorem dX6_settle_32 : decode cX6_settle 32 = .ok (.aload_n 1, 1) := by decide +kernel
theorem dX6_settle_33 : decode cX6_settle 33 = .ok (.invokevirtual 17, 3) := by decide +kernel
theorem dX6_settle_36 : decode cX6_settle 36 = .ok (.if_icmp .ge 44, 3) := by decide +kernel
theorem dX6_settle_39 : decode cX6_settle 39 = .ok (.aload_n 1, 1) := by decide +kernel
theorem dX6_settle_40 : decode cX6_settle 40 = .ok (.iload 4, 2) := by decide +kernel
theorem dX6_settle_42 : decode cX6_settle 42 = .ok (.invokevirtual 23, 3) := by decide +kernel
theorem dX6_settle_45 : decode cX6_settle 45 = .ok (.checkcast 9, 3) := by decide +kernel
theorem dX6_settle_48 : decode cX6_settle 48 = .ok (.astore 5, 2) := by decide +kernel
theorem dX6_settle_50 : decode cX6_settle 50 = .ok (.aload 5, 2) := by decide +kernel
theorem dX6_settle_52 : decode cX6_settle 52 = .ok (.getfield 27, 3) := by decide +kernel
theorem dX6_settle_55 : decode cX6_settle 55 = .ok (.iload_n 2, 1) := by decide +kernel
theorem dX6_settle_56 : decode cX6_settle 56 = .ok (.if_icmp .ne 18, 3) := by decide +kernel
theorem dX6_settle_59 : decode cX6_settle 59 = .ok (.aload 5, 2) := by decide +kernel
theorem dX6_settle_61 : decode cX6_settle 61 = .ok (.getfield 31, 3) := by decide +kernel
theorem dX6_settle_64 : decode cX6_settle 64 = .ok (.iload_n 3, 1) := by decide +kernel
theorem dX6_settle_65 : decode cX6_settle 65 = .ok (.if_icmp .gt 9, 3) := by decide +kernel
theorem dX6_settle_68 : decode cX6_settle 68 = .ok (.aload_n 0, 1) := by decide +kernel
theorem dX6_settle_69 : decode cX6_settle 69 = .ok (.aload 5, 2) := by decide +kernel
theorem dX6_settle_71 : decode cX6_settle 71 = .ok (.invokevirtual 34, 3) := by decide +kernel
theorem dX6_settle_74 : decode cX6_settle 74 = .ok (.iinc 4 1, 3) := by decide +kernel
theorem dX6_settle_77 : decode cX6_settle 77 = .ok (.goto (-47), 3) := by decide +kernel
theorem dX6_settle_80 : decode cX6_settle 80 = .ok (.return_, 1) := by decide +kernel
theorem dX6_clauseAt_0 : decode cX6_clauseAt 0 = .ok (.iload_n 1, 1) := by decide +kernel
theorem dX6_clauseAt_1 : decode cX6_clauseAt 1 = .ok (.iconst 1, 1) := by decide +kernel
theorem dX6_clauseAt_2 : decode cX6_clauseAt 2 = .ok (.if_icmp .lt 12, 3) := by decide +kernel
theorem dX6_clauseAt_5 : decode cX6_clauseAt 5 = .ok (.iload_n 1, 1) := by decide +kernel
theorem dX6_clauseAt_6 : decode cX6_clauseAt 6 = .ok (.aload_n 0, 1) := by decide +kernel
theorem dX6_clauseAt_7 : decode cX6_clauseAt 7 = .ok (.getfield 11, 3) := by decide +kernel
theorem dX6_clauseAt_10 : decode cX6_clauseAt 10 = .ok (.arraylength, 1) := by decide +kernel
theorem dX6_clauseAt_11 : decode cX6_clauseAt 11 = .ok (.if_icmp .lt 5, 3) := by decide +kernel
theorem dX6_clauseAt_14 : decode cX6_clauseAt 14 = .ok (.aconst_null, 1) := by decide +kernel
theorem dX6_clauseAt_15 : decode cX6_clauseAt 15 = .ok (.areturn, 1) := by decide +kernel
theorem dX6_clauseAt_16 : decode cX6_clauseAt 16 = .ok (.aload_n 0, 1) := by decide +kernel
theorem dX6_clauseAt_17 : decode cX6_clauseAt 17 = .ok (.getfield 11, 3) := by decide +kernel
theorem dX6_clauseAt_20 : decode cX6_clauseAt 20 = .ok (.iload_n 1, 1) := by decide +kernel
theorem dX6_clauseAt_21 : decode cX6_clauseAt 21 = .ok (.aaload, 1) := by decide +kernel
theorem dX6_clauseAt_22 : decode cX6_clauseAt 22 = .ok (.astore_n 2, 1) := by decide +kernel
theorem dX6_clauseAt_23 : decode cX6_clauseAt 23 = .ok (.aload_n 2, 1) := by decide +kernel
theorem dX6_clauseAt_24 : decode cX6_clauseAt 24 = .ok (.ifnull 15, 3) := by decide +kernel
theorem dX6_clauseAt_27 : decode cX6_clauseAt 27 = .ok (.aload_n 2, 1) := by decide +kernel
theorem dX6_clauseAt_28 : decode cX6_clauseAt 28 = .ok (.getfield 38, 3) := by decide +kernel
theorem dX6_clauseAt_31 : decode cX6_clauseAt 31 = .ok (.iconst 5, 1) := by decide +kernel
theorem dX6_clauseAt_32 : decode cX6_clauseAt 32 = .ok (.if_icmp .ne 7, 3) := by decide +kernel
theorem dX6_clauseAt_35 : decode cX6_clauseAt 35 = .ok (.aload_n 2, 1) := by decide +kernel
theorem dX6_clauseAt_36 : decode cX6_clauseAt 36 = .ok (.goto 4, 3) := by decide +kernel
theorem dX6_clauseAt_39 : decode cX6_clauseAt 39 = .ok (.aconst_null, 1) := by decide +kernel
theorem dX6_clauseAt_40 : decode cX6_clauseAt 40 = .ok (.areturn, 1) := by decide +kernel
theorem dX6_howMany_0 : decode cX6_howMany 0 = .ok (.iconst 0, 1) := by decide +kernel
theorem dX6_howMany_1 : decode cX6_howMany 1 = .ok (.istore_n 1, 1) := by decide +kernel
theorem dX6_howMany_2 : decode cX6_howMany 2 = .ok (.iconst 1, 1) := by decide +kernel
theorem dX6_howMany_3 : decode cX6_howMany 3 = .ok (.istore_n 2, 1) := by decide +kernel
theorem dX6_howMany_4 : decode cX6_howMany 4 = .ok (.iload_n 2, 1) := by decide +kernel
theorem dX6_howMany_5 : decode cX6_howMany 5 = .ok (.bipush 12, 2) := by decide +kernel
theorem dX6_howMany_7 : decode cX6_howMany 7 = .ok (.if_icmp .gt 20, 3) := by decide +kernel
theorem dX6_howMany_10 : decode cX6_howMany 10 = .ok (.aload_n 0, 1) := by decide +kernel
theorem dX6_howMany_11 : decode cX6_howMany 11 = .ok (.iload_n 2, 1) := by decide +kernel
theorem dX6_howMany_12 : decode cX6_howMany 12 = .ok (.invokevirtual 41, 3) := by decide +kernel
theorem dX6_howMany_15 : decode cX6_howMany 15 = .ok (.ifnull 6, 3) := by decide +kernel
theorem dX6_howMany_18 : decode cX6_howMany 18 = .ok (.iinc 1 1, 3) := by decide +kernel
theorem dX6_howMany_21 : decode cX6_howMany 21 = .ok (.iinc 2 1, 3) := by decide +kernel
theorem dX6_howMany_24 : decode cX6_howMany 24 = .ok (.goto (-20), 3) := by decide +kernel
theorem dX6_howMany_27 : decode cX6_howMany 27 = .ok (.iload_n 1, 1) := by decide +kernel
theorem dX6_howMany_28 : decode cX6_howMany 28 = .ok (.ireturn, 1) := by decide +kernel
theorem dX6_firstBar_0 : decode cX6_firstBar 0 = .ok (.iconst 1, 1) := by decide +kernel
theorem dX6_firstBar_1 : decode cX6_firstBar 1 = .ok (.istore_n 3, 1) := by decide +kernel
theorem dX6_firstBar_2 : decode cX6_firstBar 2 = .ok (.iload_n 3, 1) := by decide +kernel
theorem dX6_firstBar_3 : decode cX6_firstBar 3 = .ok (.bipush 12, 2) := by decide +kernel
theorem dX6_firstBar_5 : decode cX6_firstBar 5 = .ok (.if_icmp .gt 33, 3) := by decide +kernel
theorem dX6_firstBar_8 : decode cX6_firstBar 8 = .ok (.aload_n 0, 1) := by decide +kernel
theorem dX6_firstBar_9 : decode cX6_firstBar 9 = .ok (.iload_n 3, 1) := by decide +kernel
theorem dX6_firstBar_10 : decode cX6_firstBar 10 = .ok (.invokevirtual 41, 3) := by decide +kernel
theorem dX6_firstBar_13 : decode cX6_firstBar 13 = .ok (.astore 4, 2) := by decide +kernel
theorem dX6_firstBar_15 : decode cX6_firstBar 15 = .ok (.aload 4, 2) := by decide +kernel
theorem dX6_firstBar_17 : decode cX6_firstBar 17 = .ok (.ifnull 15, 3) := by decide +kernel
theorem dX6_firstBar_20 : decode cX6_firstBar 20 = .ok (.aload 4, 2) := by decide +kernel
theorem dX6_firstBar_22 : decode cX6_firstBar 22 = .ok (.aload_n 1, 1) := by decide +kernel
theorem dX6_firstBar_23 : decode cX6_firstBar 23 = .ok (.iload_n 2, 1) := by decide +kernel
theorem dX6_firstBar_24 : decode cX6_firstBar 24 = .ok (.invokevirtual 45, 3) := by decide +kernel
theorem dX6_firstBar_27 : decode cX6_firstBar 27 = .ok (.ifCond .ne 5, 3) := by decide +kernel
theorem dX6_firstBar_30 : decode cX6_firstBar 30 = .ok (.iload_n 3, 1) := by decide +kernel
theorem dX6_firstBar_31 : decode cX6_firstBar 31 = .ok (.ireturn, 1) := by decide +kernel
theorem dX6_firstBar_32 : decode cX6_firstBar 32 = .ok (.iinc 3 1, 3) := by decide +kernel
theorem dX6_firstBar_35 : decode cX6_firstBar 35 = .ok (.goto (-33), 3) := by decide +kernel
theorem dX6_firstBar_38 : decode cX6_firstBar 38 = .ok (.bipush (-2), 2) := by decide +kernel
theorem dX6_firstBar_40 : decode cX6_firstBar 40 = .ok (.ireturn, 1) := by decide +kernel
theorem dX6_admits_0 : decode cX6_admits 0 = .ok (.aload_n 1, 1) := by decide +kernel
theorem dX6_admits_1 : decode cX6_admits 1 = .ok (.getfield 49, 3) := by decide +kernel
theorem dX6_admits_4 : decode cX6_admits 4 = .ok (.iload_n 2, 1) := by decide +kernel
theorem dX6_admits_5 : decode cX6_admits 5 = .ok (.if_icmp .gt 11, 3) := by decide +kernel
theorem dX6_admits_8 : decode cX6_admits 8 = .ok (.aload_n 1, 1) := by decide +kernel
theorem dX6_admits_9 : decode cX6_admits 9 = .ok (.getfield 54, 3) := by decide +kernel
theorem dX6_admits_12 : decode cX6_admits 12 = .ok (.iload_n 2, 1) := by decide +kernel
theorem dX6_admits_13 : decode cX6_admits 13 = .ok (.if_icmp .gt 5, 3) := by decide +kernel
theorem dX6_admits_16 : decode cX6_admits 16 = .ok (.iconst 0, 1) := by decide +kernel
theorem dX6_admits_17 : decode cX6_admits 17 = .ok (.ireturn, 1) := by decide +kernel
theorem dX6_admits_18 : decode cX6_admits 18 = .ok (.aload_n 0, 1) := by decide +kernel
theorem dX6_admits_19 : decode cX6_admits 19 = .ok (.invokevirtual 57, 3) := by decide +kernel
theorem dX6_admits_22 : decode cX6_admits 22 = .ok (.ifCond .le 18, 3) := by decide +kernel
theorem dX6_admits_25 : decode cX6_admits 25 = .ok (.aload_n 0, 1) := by decide +kernel
theorem dX6_admits_26 : decode cX6_admits 26 = .ok (.aload_n 1, 1) := by decide +kernel
theorem dX6_admits_27 : decode cX6_admits 27 = .ok (.iload_n 2, 1) := by decide +kernel
theorem dX6_admits_28 : decode cX6_admits 28 = .ok (.invokevirtual 60, 3) := by decide +kernel
theorem dX6_admits_31 : decode cX6_admits 31 = .ok (.bipush (-2), 2) := by decide +kernel
theorem dX6_admits_33 : decode cX6_admits 33 = .ok (.if_icmp .ne 7, 3) := by decide +kernel
theorem dX6_admits_36 : decode cX6_admits 36 = .ok (.iconst 1, 1) := by decide +kernel
theorem dX6_admits_37 : decode cX6_admits 37 = .ok (.goto 4, 3) := by decide +kernel
theorem dX6_admits_40 : decode cX6_admits 40 = .ok (.iconst 0, 1) := by decide +kernel
theorem dX6_admits_41 : decode cX6_admits 41 = .ok (.ireturn, 1) := by decide +kernel
theorem dX6_rank_0 : decode cX6_rank 0 = .ok (.aload_n 0, 1) := by decide +kernel
theorem dX6_rank_1 : decode cX6_rank 1 = .ok (.getfield 11, 3) := by decide +kernel
theorem dX6_rank_4 : decode cX6_rank 4 = .ok (.iconst 0, 1) := by decide +kernel
theorem dX6_rank_5 : decode cX6_rank 5 = .ok (.aaload, 1) := by decide +kernel
theorem dX6_rank_6 : decode cX6_rank 6 = .ok (.astore_n 3, 1) := by decide +kernel
theorem dX6_rank_7 : decode cX6_rank 7 = .ok (.aload_n 3, 1) := by decide +kernel
theorem dX6_rank_8 : decode cX6_rank 8 = .ok (.ifnonnull 7, 3) := by decide +kernel
theorem dX6_rank_11 : decode cX6_rank 11 = .ok (.iconst 0, 1) := by decide +kernel
theorem dX6_rank_12 : decode cX6_rank 12 = .ok (.goto 9, 3) := by decide +kernel
theorem dX6_rank_15 : decode cX6_rank 15 = .ok (.aload_n 3, 1) := by decide +kernel
theorem dX6_rank_16 : decode cX6_rank 16 = .ok (.aload_n 1, 1) := by decide +kernel
theorem dX6_rank_17 : decode cX6_rank 17 = .ok (.iload_n 2, 1) := by decide +kernel
theorem dX6_rank_18 : decode cX6_rank 18 = .ok (.invokevirtual 64, 3) := by decide +kernel
theorem dX6_rank_21 : decode cX6_rank 21 = .ok (.ireturn, 1) := by decide +kernel
theorem dX6_consider_0 : decode cX6_consider 0 = .ok (.aload_n 1, 1) := by decide +kernel
theorem dX6_consider_1 : decode cX6_consider 1 = .ok (.getfield 67, 3) := by decide +kernel
theorem dX6_consider_4 : decode cX6_consider 4 = .ok (.istore_n 2, 1) := by decide +kernel
theorem dX6_consider_5 : decode cX6_consider 5 = .ok (.iload_n 2, 1) := by decide +kernel
theorem dX6_consider_6 : decode cX6_consider 6 = .ok (.ifCond .lt 12, 3) := by decide +kernel
theorem dX6_consider_9 : decode cX6_consider 9 = .ok (.iload_n 2, 1) := by decide +kernel
theorem dX6_consider_10 : decode cX6_consider 10 = .ok (.aload_n 0, 1) := by decide +kernel
theorem dX6_consider_11 : decode cX6_consider 11 = .ok (.getfield 11, 3) := by decide +kernel
theorem dX6_consider_14 : decode cX6_consider 14 = .ok (.arraylength, 1) := by decide +kernel
theorem dX6_consider_15 : decode cX6_consider 15 = .ok (.if_icmp .lt 4, 3) := by decide +kernel
theorem dX6_consider_18 : decode cX6_consider 18 = .ok (.return_, 1) := by decide +kernel
theorem dX6_consider_19 : decode cX6_consider 19 = .ok (.aload_n 0, 1) := by decide +kernel
theorem dX6_consider_20 : decode cX6_consider 20 = .ok (.getfield 11, 3) := by decide +kernel
theorem dX6_consider_23 : decode cX6_consider 23 = .ok (.iload_n 2, 1) := by decide +kernel
theorem dX6_consider_24 : decode cX6_consider 24 = .ok (.aaload, 1) := by decide +kernel
theorem dX6_consider_25 : decode cX6_consider 25 = .ok (.astore_n 3, 1) := by decide +kernel
theorem dX6_consider_26 : decode cX6_consider 26 = .ok (.aload_n 3, 1) := by decide +kernel
theorem dX6_consider_27 : decode cX6_consider 27 = .ok (.ifnull 14, 3) := by decide +kernel
theorem dX6_consider_30 : decode cX6_consider 30 = .ok (.aload_n 1, 1) := by decide +kernel
theorem dX6_consider_31 : decode cX6_consider 31 = .ok (.getfield 31, 3) := by decide +kernel
theorem dX6_consider_34 : decode cX6_consider 34 = .ok (.aload_n 3, 1) := by decide +kernel
theorem dX6_consider_35 : decode cX6_consider 35 = .ok (.getfield 31, 3) := by decide +kernel
theorem dX6_consider_38 : decode cX6_consider 38 = .ok (.if_icmp .lt 10, 3) := by decide +kernel
theorem dX6_consider_41 : decode cX6_consider 41 = .ok (.aload_n 0, 1) := by decide +kernel
theorem dX6_consider_42 : decode cX6_consider 42 = .ok (.getfield 11, 3) := by decide +kernel
theorem dX6_consider_45 : decode cX6_consider 45 = .ok (.iload_n 2, 1) := by decide +kernel
theorem dX6_consider_46 : decode cX6_consider 46 = .ok (.aload_n 1, 1) := by decide +kernel
theorem dX6_consider_47 : decode cX6_consider 47 = .ok (.aastore, 1) := by decide +kernel
theorem dX6_consider_48 : decode cX6_consider 48 = .ok (.return_, 1) := by decide +kernel
theorem dX7_init_0 : decode cX7_init 0 = .ok (.aload_n 0, 1) := by decide +kernel
theorem dX7_init_1 : decode cX7_init 1 = .ok (.invokespecial 3, 3) := by decide +kernel
theorem dX7_init_4 : decode cX7_init 4 = .ok (.aload_n 0, 1) := by decide +kernel
theorem dX7_init_5 : decode cX7_init 5 = .ok (.ldc 9, 2) := by decide +kernel
theorem dX7_init_7 : decode cX7_init 7 = .ok (.putfield 10, 3) := by decide +kernel
theorem dX7_init_10 : decode cX7_init 10 = .ok (.aload_n 0, 1) := by decide +kernel
theorem dX7_init_11 : decode cX7_init 11 = .ok (.iload_n 1, 1) := by decide +kernel
theorem dX7_init_12 : decode cX7_init 12 = .ok (.putfield 16, 3) := by decide +kernel
theorem dX7_init_15 : decode cX7_init 15 = .ok (.aload_n 0, 1) := by decide +kernel
theorem dX7_init_16 : decode cX7_init 16 = .ok (.iload_n 2, 1) := by decide +kernel
theorem dX7_init_17 : decode cX7_init 17 = .ok (.putfield 19, 3) := by decide +kernel
theorem dX7_init_20 : decode cX7_init 20 = .ok (.aload_n 0, 1) := by decide +kernel
theorem dX7_init_21 : decode cX7_init 21 = .ok (.iload_n 3, 1) := by decide +kernel
theorem dX7_init_22 : decode cX7_init 22 = .ok (.putfield 22, 3) := by decide +kernel
theorem dX7_init_25 : decode cX7_init 25 = .ok (.return_, 1) := by decide +kernel
theorem dX8_init_0 : decode cX8_init 0 = .ok (.aload_n 0, 1) := by decide +kernel
theorem dX8_init_1 : decode cX8_init 1 = .ok (.invokespecial 3, 3) := by decide +kernel
theorem dX8_init_4 : decode cX8_init 4 = .ok (.aload_n 0, 1) := by decide +kernel
theorem dX8_init_5 : decode cX8_init 5 = .ok (.sipush 300, 3) := by decide +kernel
theorem dX8_init_8 : decode cX8_init 8 = .ok (.newarray .int, 2) := by decide +kernel
theorem dX8_init_10 : decode cX8_init 10 = .ok (.putfield 9, 3) := by decide +kernel
theorem dX8_init_13 : decode cX8_init 13 = .ok (.return_, 1) := by decide +kernel
theorem dX8_append_0 : decode cX8_append 0 = .ok (.bipush 24, 2) := by decide +kernel
theorem dX8_append_2 : decode cX8_append 2 = .ok (.istore_n 2, 1) := by decide +kernel
theorem dX8_append_3 : decode cX8_append 3 = .ok (.iload_n 2, 1) := by decide +kernel
theorem dX8_append_4 : decode cX8_append 4 = .ok (.ifCond .lt 47, 3) := by decide +kernel
theorem dX8_append_7 : decode cX8_append 7 = .ok (.aload_n 0, 1) := by decide +kernel
theorem dX8_append_8 : decode cX8_append 8 = .ok (.getfield 15, 3) := by decide +kernel
theorem dX8_append_11 : decode cX8_append 11 = .ok (.aload_n 0, 1) := by decide +kernel
theorem dX8_append_12 : decode cX8_append 12 = .ok (.getfield 9, 3) := by decide +kernel
theorem dX8_append_15 : decode cX8_append 15 = .ok (.arraylength, 1) := by decide +kernel
theorem dX8_append_16 : decode cX8_append 16 = .ok (.if_icmp .ge 35, 3) := by decide +kernel
theorem dX8_append_19 : decode cX8_append 19 = .ok (.aload_n 0, 1) := by decide +kernel
theorem dX8_append_20 : decode cX8_append 20 = .ok (.getfield 9, 3) := by decide +kernel
theorem dX8_append_23 : decode cX8_append 23 = .ok (.aload_n 0, 1) := by decide +kernel
theorem dX8_append_24 : decode cX8_append 24 = .ok (.getfield 15, 3) := by decide +kernel
theorem dX8_append_27 : decode cX8_append 27 = .ok (.iload_n 1, 1) := by decide +kernel
theorem dX8_append_28 : decode cX8_append 28 = .ok (.iload_n 2, 1) := by decide +kernel
theorem dX8_append_29 : decode cX8_append 29 = .ok (.iushr, 1) := by decide +kernel
theorem dX8_append_30 : decode cX8_append 30 = .ok (.sipush 255, 3) := by decide +kernel
theorem dX8_append_33 : decode cX8_append 33 = .ok (.iand, 1) := by decide +kernel
theorem dX8_append_34 : decode cX8_append 34 = .ok (.iastore, 1) := by decide +kernel
theorem dX8_append_35 : decode cX8_append 35 = .ok (.aload_n 0, 1) := by decide +kernel
theorem dX8_append_36 : decode cX8_append 36 = .ok (.dup, 1) := by decide +kernel
theorem dX8_append_37 : decode cX8_append 37 = .ok (.getfield 15, 3) := by decide +kernel
theorem dX8_append_40 : decode cX8_append 40 = .ok (.iconst 1, 1) := by decide +kernel
theorem dX8_append_41 : decode cX8_append 41 = .ok (.iadd, 1) := by decide +kernel
theorem dX8_append_42 : decode cX8_append 42 = .ok (.putfield 15, 3) := by decide +kernel
theorem dX8_append_45 : decode cX8_append 45 = .ok (.iinc 2 (-8), 3) := by decide +kernel
theorem dX8_append_48 : decode cX8_append 48 = .ok (.goto (-45), 3) := by decide +kernel
theorem dX8_append_51 : decode cX8_append 51 = .ok (.return_, 1) := by decide +kernel
theorem dX8_rewind_0 : decode cX8_rewind 0 = .ok (.aload_n 0, 1) := by decide +kernel
theorem dX8_rewind_1 : decode cX8_rewind 1 = .ok (.iload_n 1, 1) := by decide +kernel
theorem dX8_rewind_2 : decode cX8_rewind 2 = .ok (.putfield 19, 3) := by decide +kernel
theorem dX8_rewind_5 : decode cX8_rewind 5 = .ok (.aload_n 0, 1) := by decide +kernel
theorem dX8_rewind_6 : decode cX8_rewind 6 = .ok (.iconst 0, 1) := by decide +kernel
theorem dX8_rewind_7 : decode cX8_rewind 7 = .ok (.putfield 22, 3) := by decide +kernel
theorem dX8_rewind_10 : decode cX8_rewind 10 = .ok (.return_, 1) := by decide +kernel
theorem dX8_advance_0 : decode cX8_advance 0 = .ok (.aload_n 0, 1) := by decide +kernel
theorem dX8_advance_1 : decode cX8_advance 1 = .ok (.getfield 22, 3) := by decide +kernel
theorem dX8_advance_4 : decode cX8_advance 4 = .ok (.aload_n 0, 1) := by decide +kernel
theorem dX8_advance_5 : decode cX8_advance 5 = .ok (.getfield 19, 3) := by decide +kernel
theorem dX8_advance_8 : decode cX8_advance 8 = .ok (.if_icmp .ge 29, 3) := by decide +kernel
theorem dX8_advance_11 : decode cX8_advance 11 = .ok (.aload_n 0, 1) := by decide +kernel
theorem dX8_advance_12 : decode cX8_advance 12 = .ok (.aload_n 0, 1) := by decide +kernel
theorem dX8_advance_13 : decode cX8_advance 13 = .ok (.getfield 22, 3) := by decide +kernel
theorem dX8_advance_16 : decode cX8_advance 16 = .ok (.invokevirtual 25, 3) := by decide +kernel
theorem dX8_advance_19 : decode cX8_advance 19 = .ok (.bipush 32, 2) := by decide +kernel
theorem dX8_advance_21 : decode cX8_advance 21 = .ok (.if_icmp .ne 16, 3) := by decide +kernel
theorem dX8_advance_24 : decode cX8_advance 24 = .ok (.aload_n 0, 1) := by decide +kernel
theorem dX8_advance_25 : decode cX8_advance 25 = .ok (.dup, 1) := by decide +kernel
theorem dX8_advance_26 : decode cX8_advance 26 = .ok (.getfield 22, 3) := by decide +kernel
theorem dX8_advance_29 : decode cX8_advance 29 = .ok (.iconst 1, 1) := by decide +kernel
theorem dX8_advance_30 : decode cX8_advance 30 = .ok (.iadd, 1) := by decide +kernel
theorem dX8_advance_31 : decode cX8_advance 31 = .ok (.putfield 22, 3) := by decide +kernel
theorem dX8_advance_34 : decode cX8_advance 34 = .ok (.goto (-34), 3) := by decide +kernel
theorem dX8_advance_37 : decode cX8_advance 37 = .ok (.aload_n 0, 1) := by decide +kernel
theorem dX8_advance_38 : decode cX8_advance 38 = .ok (.aload_n 0, 1) := by decide +kernel
theorem dX8_advance_39 : decode cX8_advance 39 = .ok (.getfield 22, 3) := by decide +kernel
theorem dX8_advance_42 : decode cX8_advance 42 = .ok (.putfield 29, 3) := by decide +kernel
theorem dX8_advance_45 : decode cX8_advance 45 = .ok (.aload_n 0, 1) := by decide +kernel
theorem dX8_advance_46 : decode cX8_advance 46 = .ok (.iconst 0, 1) := by decide +kernel
theorem dX8_advance_47 : decode cX8_advance 47 = .ok (.putfield 32, 3) := by decide +kernel
theorem dX8_advance_50 : decode cX8_advance 50 = .ok (.aload_n 0, 1) := by decide +kernel
theorem dX8_advance_51 : decode cX8_advance 51 = .ok (.getfield 22, 3) := by decide +kernel
theorem dX8_advance_54 : decode cX8_advance 54 = .ok (.aload_n 0, 1) := by decide +kernel
theorem dX8_advance_55 : decode cX8_advance 55 = .ok (.getfield 19, 3) := by decide +kernel
theorem dX8_advance_58 : decode cX8_advance 58 = .ok (.if_icmp .lt 11, 3) := by decide +kernel
theorem dX8_advance_61 : decode cX8_advance 61 = .ok (.aload_n 0, 1) := by decide +kernel
theorem dX8_advance_62 : decode cX8_advance 62 = .ok (.iconst 0, 1) := by decide +kernel
theorem dX8_advance_63 : decode cX8_advance 63 = .ok (.putfield 35, 3) := by decide +kernel
theorem dX8_advance_66 : decode cX8_advance 66 = .ok (.goto 85, 3) := by decide +kernel
theorem dX8_advance_69 : decode cX8_advance 69 = .ok (.aload_n 0, 1) := by decide +kernel
theorem dX8_advance_70 : decode cX8_advance 70 = .ok (.aload_n 0, 1) := by decide +kernel
theorem dX8_advance_71 : decode cX8_advance 71 = .ok (.getfield 22, 3) := by decide +kernel
theorem dX8_advance_74 : decode cX8_advance 74 = .ok (.invokevirtual 25, 3) := by decide +kernel
theorem dX8_advance_77 : decode cX8_advance 77 = .ok (.invokestatic 38, 3) := by decide +kernel
theorem dX8_advance_80 : decode cX8_advance 80 = .ok (.ifCond .eq 10, 3) := by decide +kernel
theorem dX8_advance_83 : decode cX8_advance 83 = .ok (.aload_n 0, 1) := by decide +kernel
theorem dX8_advance_84 : decode cX8_advance 84 = .ok (.invokevirtual 42, 3) := by decide +kernel
theorem dX8_advance_87 : decode cX8_advance 87 = .ok (.goto 64, 3) := by decide +kernel
theorem dX8_advance_90 : decode cX8_advance 90 = .ok (.aload_n 0, 1) := by decide +kernel
theorem dX8_advance_91 : decode cX8_advance 91 = .ok (.aload_n 0, 1) := by decide +kernel
theorem dX8_advance_92 : decode cX8_advance 92 = .ok (.getfield 22, 3) := by decide +kernel
theorem dX8_advance_95 : decode cX8_advance 95 = .ok (.invokevirtual 25, 3) := by decide +kernel
theorem dX8_advance_98 : decode cX8_advance 98 = .ok (.invokestatic 45, 3) := by decide +kernel
theorem dX8_advance_101 : decode cX8_advance 101 = .ok (.ifCond .eq 10, 3) := by decide +kernel
theorem dX8_advance_104 : decode cX8_advance 104 = .ok (.aload_n 0, 1) := by decide +kernel
theorem dX8_advance_105 : decode cX8_advance 105 = .ok (.invokevirtual 48, 3) := by decide +kernel
theorem dX8_advance_108 : decode cX8_advance 108 = .ok (.goto 43, 3) := by decide +kernel
theorem dX8_advance_111 : decode cX8_advance 111 = .ok (.aload_n 0, 1) := by decide +kernel
theorem dX8_advance_112 : decode cX8_advance 112 = .ok (.aload_n 0, 1) := by decide +kernel
theorem dX8_advance_113 : decode cX8_advance 113 = .ok (.aload_n 0, 1) := by decide +kernel
theorem dX8_advance_114 : decode cX8_advance 114 = .ok (.getfield 22, 3) := by decide +kernel
theorem dX8_advance_117 : decode cX8_advance 117 = .ok (.invokevirtual 25, 3) := by decide +kernel
theorem dX8_advance_120 : decode cX8_advance 120 = .ok (.invokestatic 51, 3) := by decide +kernel
theorem dX8_advance_123 : decode cX8_advance 123 = .ok (.ifCond .eq 14, 3) := by decide +kernel
theorem dX8_advance_126 : decode cX8_advance 126 = .ok (.aload_n 0, 1) := by decide +kernel
theorem dX8_advance_127 : decode cX8_advance 127 = .ok (.aload_n 0, 1) := by decide +kernel
theorem dX8_advance_128 : decode cX8_advance 128 = .ok (.getfield 22, 3) := by decide +kernel
theorem dX8_advance_131 : decode cX8_advance 131 = .ok (.invokevirtual 25, 3) := by decide +kernel
theorem dX8_advance_134 : decode cX8_advance 134 = .ok (.goto 4, 3) := by decide +kernel
theorem dX8_advance_137 : decode cX8_advance 137 = .ok (.iconst 1, 1) := by decide +kernel
theorem dX8_advance_138 : decode cX8_advance 138 = .ok (.putfield 35, 3) := by decide +kernel
theorem dX8_advance_141 : decode cX8_advance 141 = .ok (.aload_n 0, 1) := by decide +kernel
theorem dX8_advance_142 : decode cX8_advance 142 = .ok (.dup, 1) := by decide +kernel
theorem dX8_advance_143 : decode cX8_advance 143 = .ok (.getfield 22, 3) := by decide +kernel
theorem dX8_advance_146 : decode cX8_advance 146 = .ok (.iconst 1, 1) := by decide +kernel
theorem dX8_advance_147 : decode cX8_advance 147 = .ok (.iadd, 1) := by decide +kernel
theorem dX8_advance_148 : decode cX8_advance 148 = .ok (.putfield 22, 3) := by decide +kernel
theorem dX8_advance_151 : decode cX8_advance 151 = .ok (.return_, 1) := by decide +kernel
theorem dX8_takeNumber_0 : decode cX8_takeNumber 0 = .ok (.aload_n 0, 1) := by decide +kernel
theorem dX8_takeNumber_1 : decode cX8_takeNumber 1 = .ok (.getfield 22, 3) := by decide +kernel
theorem dX8_takeNumber_4 : decode cX8_takeNumber 4 = .ok (.aload_n 0, 1) := by decide +kernel
theorem dX8_takeNumber_5 : decode cX8_takeNumber 5 = .ok (.getfield 19, 3) := by decide +kernel
theorem dX8_takeNumber_8 : decode cX8_takeNumber 8 = .ok (.if_icmp .ge 53, 3) := by decide +kernel
theorem dX8_takeNumber_11 : decode cX8_takeNumber 11 = .ok (.aload_n 0, 1) := by decide +kernel
theorem dX8_takeNumber_12 : decode cX8_takeNumber 12 = .ok (.aload_n 0, 1) := by decide +kernel
theorem dX8_takeNumber_13 : decode cX8_takeNumber 13 = .ok (.getfield 22, 3) := by decide +kernel
theorem dX8_takeNumber_16 : decode cX8_takeNumber 16 = .ok (.invokevirtual 25, 3) := by decide +kernel
theorem dX8_takeNumber_19 : decode cX8_takeNumber 19 = .ok (.invokestatic 38, 3) := by decide +kernel
theorem dX8_takeNumber_22 : decode cX8_takeNumber 22 = .ok (.ifCond .eq 39, 3) := by decide +kernel
theorem dX8_takeNumber_25 : decode cX8_takeNumber 25 = .ok (.aload_n 0, 1) := by decide +kernel
theorem dX8_takeNumber_26 : decode cX8_takeNumber 26 = .ok (.aload_n 0, 1) := by decide +kernel
theorem dX8_takeNumber_27 : decode cX8_takeNumber 27 = .ok (.getfield 32, 3) := by decide +kernel
theorem dX8_takeNumber_30 : decode cX8_takeNumber 30 = .ok (.bipush 10, 2) := by decide +kernel
theorem dX8_takeNumber_32 : decode cX8_takeNumber 32 = .ok (.imul, 1) := by decide +kernel
theorem dX8_takeNumber_33 : decode cX8_takeNumber 33 = .ok (.aload_n 0, 1) := by decide +kernel
theorem dX8_takeNumber_34 : decode cX8_takeNumber 34 = .ok (.aload_n 0, 1) := by decide +kernel
theorem dX8_takeNumber_35 : decode cX8_takeNumber 35 = .ok (.getfield 22, 3) := by decide +kernel
theorem dX8_takeNumber_38 : decode cX8_takeNumber 38 = .ok (.invokevirtual 25, 3) := by decide +kernel
theorem dX8_takeNumber_41 : decode cX8_takeNumber 41 = .ok (.iadd, 1) := by decide +kernel
theorem dX8_takeNumber_42 : decode cX8_takeNumber 42 = .ok (.bipush 48, 2) := by decide +kernel
theorem dX8_takeNumber_44 : decode cX8_takeNumber 44 = .ok (.isub, 1) := by decide +kernel
theorem dX8_takeNumber_45 : decode cX8_takeNumber 45 = .ok (.putfield 32, 3) := by decide +kernel
theorem dX8_takeNumber_48 : decode cX8_takeNumber 48 = .ok (.aload_n 0, 1) := by decide +kernel
theorem dX8_takeNumber_49 : decode cX8_takeNumber 49 = .ok (.dup, 1) := by decide +kernel
theorem dX8_takeNumber_50 : decode cX8_takeNumber 50 = .ok (.getfield 22, 3) := by decide +kernel
theorem dX8_takeNumber_53 : decode cX8_takeNumber 53 = .ok (.iconst 1, 1) := by decide +kernel
theorem dX8_takeNumber_54 : decode cX8_takeNumber 54 = .ok (.iadd, 1) := by decide +kernel
theorem dX8_takeNumber_55 : decode cX8_takeNumber 55 = .ok (.putfield 22, 3) := by decide +kernel
theorem dX8_takeNumber_58 : decode cX8_takeNumber 58 = .ok (.goto (-58), 3) := by decide +kernel
theorem dX8_takeNumber_61 : decode cX8_takeNumber 61 = .ok (.aload_n 0, 1) := by decide +kernel
theorem dX8_takeNumber_62 : decode cX8_takeNumber 62 = .ok (.aload_n 0, 1) := by decide +kernel
theorem dX8_takeNumber_63 : decode cX8_takeNumber 63 = .ok (.getfield 22, 3) := by decide +kernel
theorem dX8_takeNumber_66 : decode cX8_takeNumber 66 = .ok (.aload_n 0, 1) := by decide +kernel
theorem dX8_takeNumber_67 : decode cX8_takeNumber 67 = .ok (.getfield 29, 3) := by decide +kernel
theorem dX8_takeNumber_70 : decode cX8_takeNumber 70 = .ok (.isub, 1) := by decide +kernel
theorem dX8_takeNumber_71 : decode cX8_takeNumber 71 = .ok (.iconst 4, 1) := by decide +kernel
theorem dX8_takeNumber_72 : decode cX8_takeNumber 72 = .ok (.if_icmp .gt 7, 3) := by decide +kernel
theorem dX8_takeNumber_75 : decode cX8_takeNumber 75 = .ok (.iconst 2, 1) := by decide +kernel
theorem dX8_takeNumber_76 : decode cX8_takeNumber 76 = .ok (.goto 4, 3) := by decide +kernel
theorem dX8_takeNumber_79 : decode cX8_takeNumber 79 = .ok (.iconst 1, 1) := by decide +kernel
theorem dX8_takeNumber_80 : decode cX8_takeNumber 80 = .ok (.putfield 35, 3) := by decide +kernel
theorem dX8_takeNumber_83 : decode cX8_takeNumber 83 = .ok (.return_, 1) := by decide +kernel
theorem dX8_takeWord_0 : decode cX8_takeWord 0 = .ok (.aload_n 0, 1) := by decide +kernel
theorem dX8_takeWord_1 : decode cX8_takeWord 1 = .ok (.getfield 22, 3) := by decide +kernel
theorem dX8_takeWord_4 : decode cX8_takeWord 4 = .ok (.aload_n 0, 1) := by decide +kernel
theorem dX8_takeWord_5 : decode cX8_takeWord 5 = .ok (.getfield 19, 3) := by decide +kernel
theorem dX8_takeWord_8 : decode cX8_takeWord 8 = .ok (.if_icmp .ge 30, 3) := by decide +kernel
theorem dX8_takeWord_11 : decode cX8_takeWord 11 = .ok (.aload_n 0, 1) := by decide +kernel
theorem dX8_takeWord_12 : decode cX8_takeWord 12 = .ok (.aload_n 0, 1) := by decide +kernel
theorem dX8_takeWord_13 : decode cX8_takeWord 13 = .ok (.getfield 22, 3) := by decide +kernel
theorem dX8_takeWord_16 : decode cX8_takeWord 16 = .ok (.invokevirtual 25, 3) := by decide +kernel
theorem dX8_takeWord_19 : decode cX8_takeWord 19 = .ok (.invokestatic 45, 3) := by decide +kernel
theorem dX8_takeWord_22 : decode cX8_takeWord 22 = .ok (.ifCond .eq 16, 3) := by decide +kernel
theorem dX8_takeWord_25 : decode cX8_takeWord 25 = .ok (.aload_n 0, 1) := by decide +kernel
theorem dX8_takeWord_26 : decode cX8_takeWord 26 = .ok (.dup, 1) := by decide +kernel
theorem dX8_takeWord_27 : decode cX8_takeWord 27 = .ok (.getfield 22, 3) := by decide +kernel
theorem dX8_takeWord_30 : decode cX8_takeWord 30 = .ok (.iconst 1, 1) := by decide +kernel
theorem dX8_takeWord_31 : decode cX8_takeWord 31 = .ok (.iadd, 1) := by decide +kernel
theorem dX8_takeWord_32 : decode cX8_takeWord 32 = .ok (.putfield 22, 3) := by decide +kernel
theorem dX8_takeWord_35 : decode cX8_takeWord 35 = .ok (.goto (-35), 3) := by decide +kernel
theorem dX8_takeWord_38 : decode cX8_takeWord 38 = .ok (.aload_n 0, 1) := by decide +kernel
theorem dX8_takeWord_39 : decode cX8_takeWord 39 = .ok (.aload_n 0, 1) := by decide +kernel
theorem dX8_takeWord_40 : decode cX8_takeWord 40 = .ok (.getfield 22, 3) := by decide +kernel
theorem dX8_takeWord_43 : decode cX8_takeWord 43 = .ok (.aload_n 0, 1) := by decide +kernel
theorem dX8_takeWord_44 : decode cX8_takeWord 44 = .ok (.getfield 29, 3) := by decide +kernel
theorem dX8_takeWord_47 : decode cX8_takeWord 47 = .ok (.isub, 1) := by decide +kernel
theorem dX8_takeWord_48 : decode cX8_takeWord 48 = .ok (.bipush 8, 2) := by decide +kernel
theorem dX8_takeWord_50 : decode cX8_takeWord 50 = .ok (.if_icmp .gt 10, 3) := by decide +kernel
theorem dX8_takeWord_53 : decode cX8_takeWord 53 = .ok (.aload_n 0, 1) := by decide +kernel
theorem dX8_takeWord_54 : decode cX8_takeWord 54 = .ok (.invokevirtual 54, 3) := by decide +kernel
theorem dX8_takeWord_57 : decode cX8_takeWord 57 = .ok (.goto 4, 3) := by decide +kernel
theorem dX8_takeWord_60 : decode cX8_takeWord 60 = .ok (.iconst 1, 1) := by decide +kernel
theorem dX8_takeWord_61 : decode cX8_takeWord 61 = .ok (.putfield 35, 3) := by decide +kernel
theorem dX8_takeWord_64 : decode cX8_takeWord 64 = .ok (.aload_n 0, 1) := by decide +kernel
theorem dX8_takeWord_65 : decode cX8_takeWord 65 = .ok (.getfield 35, 3) := by decide +kernel
theorem dX8_takeWord_68 : decode cX8_takeWord 68 = .ok (.iconst 3, 1) := by decide +kernel
theorem dX8_takeWord_69 : decode cX8_takeWord 69 = .ok (.if_icmp .ne 28, 3) := by decide +kernel
theorem dX8_takeWord_72 : decode cX8_takeWord 72 = .ok (.aload_n 0, 1) := by decide +kernel
theorem dX8_takeWord_73 : decode cX8_takeWord 73 = .ok (.aload_n 0, 1) := by decide +kernel
theorem dX8_takeWord_74 : decode cX8_takeWord 74 = .ok (.invokevirtual 58, 3) := by decide +kernel
theorem dX8_takeWord_77 : decode cX8_takeWord 77 = .ok (.putfield 32, 3) := by decide +kernel
theorem dX8_takeWord_80 : decode cX8_takeWord 80 = .ok (.aload_n 0, 1) := by decide +kernel
theorem dX8_takeWord_81 : decode cX8_takeWord 81 = .ok (.aload_n 0, 1) := by decide +kernel
theorem dX8_takeWord_82 : decode cX8_takeWord 82 = .ok (.getfield 32, 3) := by decide +kernel
theorem dX8_takeWord_85 : decode cX8_takeWord 85 = .ok (.iconst (-1), 1) := by decide +kernel
theorem dX8_takeWord_86 : decode cX8_takeWord 86 = .ok (.if_icmp .ne 7, 3) := by decide +kernel
theorem dX8_takeWord_89 : decode cX8_takeWord 89 = .ok (.iconst 3, 1) := by decide +kernel
theorem dX8_takeWord_90 : decode cX8_takeWord 90 = .ok (.goto 4, 3) := by decide +kernel
theorem dX8_takeWord_93 : decode cX8_takeWord 93 = .ok (.iconst 4, 1) := by decide +kernel
theorem dX8_takeWord_94 : decode cX8_takeWord 94 = .ok (.putfield 35, 3) := by decide +kernel
theorem dX8_takeWord_97 : decode cX8_takeWord 97 = .ok (.return_, 1) := by decide +kernel
theorem dX8_keywordKind_0 : decode cX8_keywordKind 0 = .ok (.aload_n 0, 1) := by decide +kernel
theorem dX8_keywordKind_1 : decode cX8_keywordKind 1 = .ok (.ldc 61, 2) := by decide +kernel
theorem dX8_keywordKind_3 : decode cX8_keywordKind 3 = .ok (.invokevirtual 63, 3) := by decide +kernel
theorem dX8_keywordKind_6 : decode cX8_keywordKind 6 = .ok (.ifCond .eq 5, 3) := by decide +kernel
theorem dX8_keywordKind_9 : decode cX8_keywordKind 9 = .ok (.iconst 5, 1) := by decide +kernel
theorem dX8_keywordKind_10 : decode cX8_keywordKind 10 = .ok (.ireturn, 1) := by decide +kernel
theorem dX8_keywordKind_11 : decode cX8_keywordKind 11 = .ok (.aload_n 0, 1) := by decide +kernel
theorem dX8_keywordKind_12 : decode cX8_keywordKind 12 = .ok (.ldc 67, 2) := by decide +kernel
theorem dX8_keywordKind_14 : decode cX8_keywordKind 14 = .ok (.invokevirtual 63, 3) := by decide +kernel
end
section
theorem dX8_keywordKind_17 : decode cX8_keywordKind 17 = .ok (.ifCond .eq 6, 3) := by decide +kernel
theorem dX8_keywordKind_20 : decode cX8_keywordKind 20 = .ok (.bipush 6, 2) := by decide +kernel
theorem dX8_keywordKind_22 : decode cX8_keywordKind 22 = .ok (.ireturn, 1) := by decide +kernel
theorem dX8_keywordKind_23 : decode cX8_keywordKind 23 = .ok (.aload_n 0, 1) := by decide +kernel
theorem dX8_keywordKind_24 : decode cX8_keywordKind 24 = .ok (.ldc 69, 2) := by decide +kernel
theorem dX8_keywordKind_26 : decode cX8_keywordKind 26 = .ok (.invokevirtual 63, 3) := by decide +kernel
theorem dX8_keywordKind_29 : decode cX8_keywordKind 29 = .ok (.ifCond .eq 6, 3) := by decide +kernel
theorem dX8_keywordKind_32 : decode cX8_keywordKind 32 = .ok (.bipush 7, 2) := by decide +kernel
theorem dX8_keywordKind_34 : decode cX8_keywordKind 34 = .ok (.ireturn, 1) := by decide +kernel
theorem dX8_keywordKind_35 : decode cX8_keywordKind 35 = .ok (.aload_n 0, 1) := by decide +kernel
theorem dX8_keywordKind_36 : decode cX8_keywordKind 36 = .ok (.ldc 71, 2) := by decide +kernel
theorem dX8_keywordKind_38 : decode cX8_keywordKind 38 = .ok (.invokevirtual 63, 3) := by decide +kernel
theorem dX8_keywordKind_41 : decode cX8_keywordKind 41 = .ok (.ifCond .eq 6, 3) := by decide +kernel
theorem dX8_keywordKind_44 : decode cX8_keywordKind 44 = .ok (.bipush 8, 2) := by decide +kernel
theorem dX8_keywordKind_46 : decode cX8_keywordKind 46 = .ok (.ireturn, 1) := by decide +kernel
theorem dX8_keywordKind_47 : decode cX8_keywordKind 47 = .ok (.aload_n 0, 1) := by decide +kernel
theorem dX8_keywordKind_48 : decode cX8_keywordKind 48 = .ok (.ldc 73, 2) := by decide +kernel
theorem dX8_keywordKind_50 : decode cX8_keywordKind 50 = .ok (.invokevirtual 63, 3) := by decide +kernel
theorem dX8_keywordKind_53 : decode cX8_keywordKind 53 = .ok (.ifCond .eq 6, 3) := by decide +kernel
theorem dX8_keywordKind_56 : decode cX8_keywordKind 56 = .ok (.bipush 9, 2) := by decide +kernel
theorem dX8_keywordKind_58 : decode cX8_keywordKind 58 = .ok (.ireturn, 1) := by decide +kernel
theorem dX8_keywordKind_59 : decode cX8_keywordKind 59 = .ok (.aload_n 0, 1) := by decide +kernel
theorem dX8_keywordKind_60 : decode cX8_keywordKind 60 = .ok (.ldc 75, 2) := by decide +kernel
theorem dX8_keywordKind_62 : decode cX8_keywordKind 62 = .ok (.invokevirtual 63, 3) := by decide +kernel
theorem dX8_keywordKind_65 : decode cX8_keywordKind 65 = .ok (.ifCond .eq 8, 3) := by decide +kernel
theorem dX8_keywordKind_68 : decode cX8_keywordKind 68 = .ok (.bipush 10, 2) := by decide +kernel
theorem dX8_keywordKind_70 : decode cX8_keywordKind 70 = .ok (.goto 4, 3) := by decide +kernel
theorem dX8_keywordKind_73 : decode cX8_keywordKind 73 = .ok (.iconst 3, 1) := by decide +kernel
theorem dX8_keywordKind_74 : decode cX8_keywordKind 74 = .ok (.ireturn, 1) := by decide +kernel
theorem dX8_nameNumber_0 : decode cX8_nameNumber 0 = .ok (.aload_n 0, 1) := by decide +kernel
theorem dX8_nameNumber_1 : decode cX8_nameNumber 1 = .ok (.ldc 77, 2) := by decide +kernel
theorem dX8_nameNumber_3 : decode cX8_nameNumber 3 = .ok (.invokevirtual 63, 3) := by decide +kernel
theorem dX8_nameNumber_6 : decode cX8_nameNumber 6 = .ok (.ifCond .eq 5, 3) := by decide +kernel
theorem dX8_nameNumber_9 : decode cX8_nameNumber 9 = .ok (.iconst 0, 1) := by decide +kernel
theorem dX8_nameNumber_10 : decode cX8_nameNumber 10 = .ok (.ireturn, 1) := by decide +kernel
theorem dX8_nameNumber_11 : decode cX8_nameNumber 11 = .ok (.aload_n 0, 1) := by decide +kernel
theorem dX8_nameNumber_12 : decode cX8_nameNumber 12 = .ok (.ldc 79, 2) := by decide +kernel
theorem dX8_nameNumber_14 : decode cX8_nameNumber 14 = .ok (.invokevirtual 63, 3) := by decide +kernel
theorem dX8_nameNumber_17 : decode cX8_nameNumber 17 = .ok (.ifCond .eq 5, 3) := by decide +kernel
theorem dX8_nameNumber_20 : decode cX8_nameNumber 20 = .ok (.iconst 1, 1) := by decide +kernel
theorem dX8_nameNumber_21 : decode cX8_nameNumber 21 = .ok (.ireturn, 1) := by decide +kernel
theorem dX8_nameNumber_22 : decode cX8_nameNumber 22 = .ok (.aload_n 0, 1) := by decide +kernel
theorem dX8_nameNumber_23 : decode cX8_nameNumber 23 = .ok (.ldc 81, 2) := by decide +kernel
theorem dX8_nameNumber_25 : decode cX8_nameNumber 25 = .ok (.invokevirtual 63, 3) := by decide +kernel
theorem dX8_nameNumber_28 : decode cX8_nameNumber 28 = .ok (.ifCond .eq 5, 3) := by decide +kernel
theorem dX8_nameNumber_31 : decode cX8_nameNumber 31 = .ok (.iconst 2, 1) := by decide +kernel
theorem dX8_nameNumber_32 : decode cX8_nameNumber 32 = .ok (.ireturn, 1) := by decide +kernel
theorem dX8_nameNumber_33 : decode cX8_nameNumber 33 = .ok (.aload_n 0, 1) := by decide +kernel
theorem dX8_nameNumber_34 : decode cX8_nameNumber 34 = .ok (.ldc 83, 2) := by decide +kernel
theorem dX8_nameNumber_36 : decode cX8_nameNumber 36 = .ok (.invokevirtual 63, 3) := by decide +kernel
theorem dX8_nameNumber_39 : decode cX8_nameNumber 39 = .ok (.ifCond .eq 5, 3) := by decide +kernel
theorem dX8_nameNumber_42 : decode cX8_nameNumber 42 = .ok (.iconst 3, 1) := by decide +kernel
theorem dX8_nameNumber_43 : decode cX8_nameNumber 43 = .ok (.ireturn, 1) := by decide +kernel
theorem dX8_nameNumber_44 : decode cX8_nameNumber 44 = .ok (.aload_n 0, 1) := by decide +kernel
theorem dX8_nameNumber_45 : decode cX8_nameNumber 45 = .ok (.ldc 85, 2) := by decide +kernel
theorem dX8_nameNumber_47 : decode cX8_nameNumber 47 = .ok (.invokevirtual 63, 3) := by decide +kernel
theorem dX8_nameNumber_50 : decode cX8_nameNumber 50 = .ok (.ifCond .eq 7, 3) := by decide +kernel
theorem dX8_nameNumber_53 : decode cX8_nameNumber 53 = .ok (.iconst 4, 1) := by decide +kernel
theorem dX8_nameNumber_54 : decode cX8_nameNumber 54 = .ok (.goto 4, 3) := by decide +kernel
theorem dX8_nameNumber_57 : decode cX8_nameNumber 57 = .ok (.iconst (-1), 1) := by decide +kernel
theorem dX8_nameNumber_58 : decode cX8_nameNumber 58 = .ok (.ireturn, 1) := by decide +kernel
theorem dX8_spells_0 : decode cX8_spells 0 = .ok (.aload_n 0, 1) := by decide +kernel
theorem dX8_spells_1 : decode cX8_spells 1 = .ok (.getfield 22, 3) := by decide +kernel
theorem dX8_spells_4 : decode cX8_spells 4 = .ok (.aload_n 0, 1) := by decide +kernel
theorem dX8_spells_5 : decode cX8_spells 5 = .ok (.getfield 29, 3) := by decide +kernel
theorem dX8_spells_8 : decode cX8_spells 8 = .ok (.isub, 1) := by decide +kernel
theorem dX8_spells_9 : decode cX8_spells 9 = .ok (.aload_n 1, 1) := by decide +kernel
theorem dX8_spells_10 : decode cX8_spells 10 = .ok (.invokevirtual 87, 3) := by decide +kernel
theorem dX8_spells_13 : decode cX8_spells 13 = .ok (.if_icmp .eq 5, 3) := by decide +kernel
theorem dX8_spells_16 : decode cX8_spells 16 = .ok (.iconst 0, 1) := by decide +kernel
theorem dX8_spells_17 : decode cX8_spells 17 = .ok (.ireturn, 1) := by decide +kernel
theorem dX8_spells_18 : decode cX8_spells 18 = .ok (.iconst 0, 1) := by decide +kernel
theorem dX8_spells_19 : decode cX8_spells 19 = .ok (.istore_n 2, 1) := by decide +kernel
theorem dX8_spells_20 : decode cX8_spells 20 = .ok (.iload_n 2, 1) := by decide +kernel
theorem dX8_spells_21 : decode cX8_spells 21 = .ok (.aload_n 1, 1) := by decide +kernel
theorem dX8_spells_22 : decode cX8_spells 22 = .ok (.invokevirtual 87, 3) := by decide +kernel
theorem dX8_spells_25 : decode cX8_spells 25 = .ok (.if_icmp .ge 29, 3) := by decide +kernel
theorem dX8_spells_28 : decode cX8_spells 28 = .ok (.aload_n 0, 1) := by decide +kernel
theorem dX8_spells_29 : decode cX8_spells 29 = .ok (.aload_n 0, 1) := by decide +kernel
theorem dX8_spells_30 : decode cX8_spells 30 = .ok (.getfield 29, 3) := by decide +kernel
theorem dX8_spells_33 : decode cX8_spells 33 = .ok (.iload_n 2, 1) := by decide +kernel
theorem dX8_spells_34 : decode cX8_spells 34 = .ok (.iadd, 1) := by decide +kernel
theorem dX8_spells_35 : decode cX8_spells 35 = .ok (.invokevirtual 25, 3) := by decide +kernel
theorem dX8_spells_38 : decode cX8_spells 38 = .ok (.aload_n 1, 1) := by decide +kernel
theorem dX8_spells_39 : decode cX8_spells 39 = .ok (.iload_n 2, 1) := by decide +kernel
theorem dX8_spells_40 : decode cX8_spells 40 = .ok (.invokevirtual 91, 3) := by decide +kernel
theorem dX8_spells_43 : decode cX8_spells 43 = .ok (.if_icmp .eq 5, 3) := by decide +kernel
theorem dX8_spells_46 : decode cX8_spells 46 = .ok (.iconst 0, 1) := by decide +kernel
theorem dX8_spells_47 : decode cX8_spells 47 = .ok (.ireturn, 1) := by decide +kernel
theorem dX8_spells_48 : decode cX8_spells 48 = .ok (.iinc 2 1, 3) := by decide +kernel
theorem dX8_spells_51 : decode cX8_spells 51 = .ok (.goto (-31), 3) := by decide +kernel
theorem dX8_spells_54 : decode cX8_spells 54 = .ok (.iconst 1, 1) := by decide +kernel
theorem dX8_spells_55 : decode cX8_spells 55 = .ok (.ireturn, 1) := by decide +kernel
theorem dX8_byteAt_0 : decode cX8_byteAt 0 = .ok (.iload_n 1, 1) := by decide +kernel
theorem dX8_byteAt_1 : decode cX8_byteAt 1 = .ok (.ifCond .lt 21, 3) := by decide +kernel
theorem dX8_byteAt_4 : decode cX8_byteAt 4 = .ok (.iload_n 1, 1) := by decide +kernel
theorem dX8_byteAt_5 : decode cX8_byteAt 5 = .ok (.aload_n 0, 1) := by decide +kernel
theorem dX8_byteAt_6 : decode cX8_byteAt 6 = .ok (.getfield 9, 3) := by decide +kernel
theorem dX8_byteAt_9 : decode cX8_byteAt 9 = .ok (.arraylength, 1) := by decide +kernel
theorem dX8_byteAt_10 : decode cX8_byteAt 10 = .ok (.if_icmp .ge 12, 3) := by decide +kernel
theorem dX8_byteAt_13 : decode cX8_byteAt 13 = .ok (.aload_n 0, 1) := by decide +kernel
theorem dX8_byteAt_14 : decode cX8_byteAt 14 = .ok (.getfield 9, 3) := by decide +kernel
theorem dX8_byteAt_17 : decode cX8_byteAt 17 = .ok (.iload_n 1, 1) := by decide +kernel
theorem dX8_byteAt_18 : decode cX8_byteAt 18 = .ok (.iaload, 1) := by decide +kernel
theorem dX8_byteAt_19 : decode cX8_byteAt 19 = .ok (.goto 4, 3) := by decide +kernel
theorem dX8_byteAt_22 : decode cX8_byteAt 22 = .ok (.iconst 0, 1) := by decide +kernel
theorem dX8_byteAt_23 : decode cX8_byteAt 23 = .ok (.ireturn, 1) := by decide +kernel
theorem dX8_isDigit_0 : decode cX8_isDigit 0 = .ok (.iload_n 0, 1) := by decide +kernel
theorem dX8_isDigit_1 : decode cX8_isDigit 1 = .ok (.bipush 48, 2) := by decide +kernel
theorem dX8_isDigit_3 : decode cX8_isDigit 3 = .ok (.if_icmp .lt 13, 3) := by decide +kernel
theorem dX8_isDigit_6 : decode cX8_isDigit 6 = .ok (.iload_n 0, 1) := by decide +kernel
theorem dX8_isDigit_7 : decode cX8_isDigit 7 = .ok (.bipush 57, 2) := by decide +kernel
theorem dX8_isDigit_9 : decode cX8_isDigit 9 = .ok (.if_icmp .gt 7, 3) := by decide +kernel
theorem dX8_isDigit_12 : decode cX8_isDigit 12 = .ok (.iconst 1, 1) := by decide +kernel
theorem dX8_isDigit_13 : decode cX8_isDigit 13 = .ok (.goto 4, 3) := by decide +kernel
theorem dX8_isDigit_16 : decode cX8_isDigit 16 = .ok (.iconst 0, 1) := by decide +kernel
theorem dX8_isDigit_17 : decode cX8_isDigit 17 = .ok (.ireturn, 1) := by decide +kernel
theorem dX8_isLetter_0 : decode cX8_isLetter 0 = .ok (.iload_n 0, 1) := by decide +kernel
theorem dX8_isLetter_1 : decode cX8_isLetter 1 = .ok (.bipush 97, 2) := by decide +kernel
theorem dX8_isLetter_3 : decode cX8_isLetter 3 = .ok (.if_icmp .lt 13, 3) := by decide +kernel
theorem dX8_isLetter_6 : decode cX8_isLetter 6 = .ok (.iload_n 0, 1) := by decide +kernel
theorem dX8_isLetter_7 : decode cX8_isLetter 7 = .ok (.bipush 122, 2) := by decide +kernel
theorem dX8_isLetter_9 : decode cX8_isLetter 9 = .ok (.if_icmp .gt 7, 3) := by decide +kernel
theorem dX8_isLetter_12 : decode cX8_isLetter 12 = .ok (.iconst 1, 1) := by decide +kernel
theorem dX8_isLetter_13 : decode cX8_isLetter 13 = .ok (.goto 4, 3) := by decide +kernel
theorem dX8_isLetter_16 : decode cX8_isLetter 16 = .ok (.iconst 0, 1) := by decide +kernel
theorem dX8_isLetter_17 : decode cX8_isLetter 17 = .ok (.ireturn, 1) := by decide +kernel
theorem dX8_isSign_0 : decode cX8_isSign 0 = .ok (.iload_n 0, 1) := by decide +kernel
theorem dX8_isSign_1 : decode cX8_isSign 1 = .ok (.tableswitch 109 40 62 #[107, 107, 107, 107, 109, 109, 109, 109, 109, 109, 109, 109, 109, 109, 109, 109, 109, 109, 109, 107, 107, 107, 107], 107) := by decide +kernel
theorem dX8_isSign_108 : decode cX8_isSign 108 = .ok (.iconst 1, 1) := by decide +kernel
theorem dX8_isSign_109 : decode cX8_isSign 109 = .ok (.ireturn, 1) := by decide +kernel
theorem dX8_isSign_110 : decode cX8_isSign 110 = .ok (.iconst 0, 1) := by decide +kernel
theorem dX8_isSign_111 : decode cX8_isSign 111 = .ok (.ireturn, 1) := by decide +kernel
theorem dX9_init_0 : decode cX9_init 0 = .ok (.aload_n 0, 1) := by decide +kernel
theorem dX9_init_1 : decode cX9_init 1 = .ok (.invokespecial 3, 3) := by decide +kernel
theorem dX9_init_4 : decode cX9_init 4 = .ok (.aload_n 0, 1) := by decide +kernel
theorem dX9_init_5 : decode cX9_init 5 = .ok (.bipush 8, 2) := by decide +kernel
theorem dX9_init_7 : decode cX9_init 7 = .ok (.newarray .boolean, 2) := by decide +kernel
theorem dX9_init_9 : decode cX9_init 9 = .ok (.putfield 9, 3) := by decide +kernel
theorem dX9_init_12 : decode cX9_init 12 = .ok (.return_, 1) := by decide +kernel
theorem dX9_setAbsent_0 : decode cX9_setAbsent 0 = .ok (.iload_n 1, 1) := by decide +kernel
theorem dX9_setAbsent_1 : decode cX9_setAbsent 1 = .ok (.ifCond .lt 19, 3) := by decide +kernel
theorem dX9_setAbsent_4 : decode cX9_setAbsent 4 = .ok (.iload_n 1, 1) := by decide +kernel
theorem dX9_setAbsent_5 : decode cX9_setAbsent 5 = .ok (.aload_n 0, 1) := by decide +kernel
theorem dX9_setAbsent_6 : decode cX9_setAbsent 6 = .ok (.getfield 9, 3) := by decide +kernel
theorem dX9_setAbsent_9 : decode cX9_setAbsent 9 = .ok (.arraylength, 1) := by decide +kernel
theorem dX9_setAbsent_10 : decode cX9_setAbsent 10 = .ok (.if_icmp .ge 10, 3) := by decide +kernel
theorem dX9_setAbsent_13 : decode cX9_setAbsent 13 = .ok (.aload_n 0, 1) := by decide +kernel
theorem dX9_setAbsent_14 : decode cX9_setAbsent 14 = .ok (.getfield 9, 3) := by decide +kernel
theorem dX9_setAbsent_17 : decode cX9_setAbsent 17 = .ok (.iload_n 1, 1) := by decide +kernel
theorem dX9_setAbsent_18 : decode cX9_setAbsent 18 = .ok (.iload_n 2, 1) := by decide +kernel
theorem dX9_setAbsent_19 : decode cX9_setAbsent 19 = .ok (.bastore, 1) := by decide +kernel
theorem dX9_setAbsent_20 : decode cX9_setAbsent 20 = .ok (.return_, 1) := by decide +kernel
theorem dX9_giver_0 : decode cX9_giver 0 = .ok (.aload_n 0, 1) := by decide +kernel
theorem dX9_giver_1 : decode cX9_giver 1 = .ok (.getfield 15, 3) := by decide +kernel
theorem dX9_giver_4 : decode cX9_giver 4 = .ok (.istore_n 1, 1) := by decide +kernel
theorem dX9_giver_5 : decode cX9_giver 5 = .ok (.iconst 0, 1) := by decide +kernel
theorem dX9_giver_6 : decode cX9_giver 6 = .ok (.istore_n 2, 1) := by decide +kernel
theorem dX9_giver_7 : decode cX9_giver 7 = .ok (.iload_n 2, 1) := by decide +kernel
theorem dX9_giver_8 : decode cX9_giver 8 = .ok (.aload_n 0, 1) := by decide +kernel
theorem dX9_giver_9 : decode cX9_giver 9 = .ok (.getfield 19, 3) := by decide +kernel
theorem dX9_giver_12 : decode cX9_giver 12 = .ok (.if_icmp .ge 39, 3) := by decide +kernel
theorem dX9_giver_15 : decode cX9_giver 15 = .ok (.iload_n 1, 1) := by decide +kernel
theorem dX9_giver_16 : decode cX9_giver 16 = .ok (.ifCond .lt 23, 3) := by decide +kernel
theorem dX9_giver_19 : decode cX9_giver 19 = .ok (.iload_n 1, 1) := by decide +kernel
theorem dX9_giver_20 : decode cX9_giver 20 = .ok (.aload_n 0, 1) := by decide +kernel
theorem dX9_giver_21 : decode cX9_giver 21 = .ok (.getfield 9, 3) := by decide +kernel
theorem dX9_giver_24 : decode cX9_giver 24 = .ok (.arraylength, 1) := by decide +kernel
theorem dX9_giver_25 : decode cX9_giver 25 = .ok (.if_icmp .ge 14, 3) := by decide +kernel
theorem dX9_giver_28 : decode cX9_giver 28 = .ok (.aload_n 0, 1) := by decide +kernel
theorem dX9_giver_29 : decode cX9_giver 29 = .ok (.getfield 9, 3) := by decide +kernel
theorem dX9_giver_32 : decode cX9_giver 32 = .ok (.iload_n 1, 1) := by decide +kernel
theorem dX9_giver_33 : decode cX9_giver 33 = .ok (.baload, 1) := by decide +kernel
theorem dX9_giver_34 : decode cX9_giver 34 = .ok (.ifCond .ne 5, 3) := by decide +kernel
theorem dX9_giver_37 : decode cX9_giver 37 = .ok (.iload_n 1, 1) := by decide +kernel
theorem dX9_giver_38 : decode cX9_giver 38 = .ok (.ireturn, 1) := by decide +kernel
theorem dX9_giver_39 : decode cX9_giver 39 = .ok (.aload_n 0, 1) := by decide +kernel
theorem dX9_giver_40 : decode cX9_giver 40 = .ok (.iload_n 1, 1) := by decide +kernel
theorem dX9_giver_41 : decode cX9_giver 41 = .ok (.invokevirtual 22, 3) := by decide +kernel
theorem dX9_giver_44 : decode cX9_giver 44 = .ok (.istore_n 1, 1) := by decide +kernel
theorem dX9_giver_45 : decode cX9_giver 45 = .ok (.iinc 2 1, 3) := by decide +kernel
theorem dX9_giver_48 : decode cX9_giver 48 = .ok (.goto (-41), 3) := by decide +kernel
theorem dX9_giver_51 : decode cX9_giver 51 = .ok (.iconst (-1), 1) := by decide +kernel
theorem dX9_giver_52 : decode cX9_giver 52 = .ok (.ireturn, 1) := by decide +kernel
theorem dX9_moveTurnBehind_0 : decode cX9_moveTurnBehind 0 = .ok (.aload_n 0, 1) := by decide +kernel
theorem dX9_moveTurnBehind_1 : decode cX9_moveTurnBehind 1 = .ok (.aload_n 0, 1) := by decide +kernel
theorem dX9_moveTurnBehind_2 : decode cX9_moveTurnBehind 2 = .ok (.iload_n 1, 1) := by decide +kernel
theorem dX9_moveTurnBehind_3 : decode cX9_moveTurnBehind 3 = .ok (.invokevirtual 22, 3) := by decide +kernel
theorem dX9_moveTurnBehind_6 : decode cX9_moveTurnBehind 6 = .ok (.putfield 15, 3) := by decide +kernel
theorem dX9_moveTurnBehind_9 : decode cX9_moveTurnBehind 9 = .ok (.return_, 1) := by decide +kernel
theorem dX9_behind_0 : decode cX9_behind 0 = .ok (.iload_n 1, 1) := by decide +kernel
theorem dX9_behind_1 : decode cX9_behind 1 = .ok (.iconst 1, 1) := by decide +kernel
theorem dX9_behind_2 : decode cX9_behind 2 = .ok (.iadd, 1) := by decide +kernel
theorem dX9_behind_3 : decode cX9_behind 3 = .ok (.aload_n 0, 1) := by decide +kernel
theorem dX9_behind_4 : decode cX9_behind 4 = .ok (.getfield 19, 3) := by decide +kernel
theorem dX9_behind_7 : decode cX9_behind 7 = .ok (.if_icmp .ge 9, 3) := by decide +kernel
theorem dX9_behind_10 : decode cX9_behind 10 = .ok (.iload_n 1, 1) := by decide +kernel
theorem dX9_behind_11 : decode cX9_behind 11 = .ok (.iconst 1, 1) := by decide +kernel
theorem dX9_behind_12 : decode cX9_behind 12 = .ok (.iadd, 1) := by decide +kernel
theorem dX9_behind_13 : decode cX9_behind 13 = .ok (.goto 4, 3) := by decide +kernel
theorem dX9_behind_16 : decode cX9_behind 16 = .ok (.iconst 0, 1) := by decide +kernel
theorem dX9_behind_17 : decode cX9_behind 17 = .ok (.ireturn, 1) := by decide +kernel
theorem dX10_init_0 : decode cX10_init 0 = .ok (.aload_n 0, 1) := by decide +kernel
theorem dX10_init_1 : decode cX10_init 1 = .ok (.invokespecial 3, 3) := by decide +kernel
theorem dX10_init_4 : decode cX10_init 4 = .ok (.aload_n 0, 1) := by decide +kernel
theorem dX10_init_5 : decode cX10_init 5 = .ok (.sipush 300, 3) := by decide +kernel
theorem dX10_init_8 : decode cX10_init 8 = .ok (.newarray .int, 2) := by decide +kernel
theorem dX10_init_10 : decode cX10_init 10 = .ok (.putfield 9, 3) := by decide +kernel
theorem dX10_init_13 : decode cX10_init 13 = .ok (.aload_n 0, 1) := by decide +kernel
theorem dX10_init_14 : decode cX10_init 14 = .ok (.sipush 300, 3) := by decide +kernel
theorem dX10_init_17 : decode cX10_init 17 = .ok (.newarray .int, 2) := by decide +kernel
theorem dX10_init_19 : decode cX10_init 19 = .ok (.putfield 15, 3) := by decide +kernel
theorem dX10_init_22 : decode cX10_init 22 = .ok (.return_, 1) := by decide +kernel
theorem dX10_begin_0 : decode cX10_begin 0 = .ok (.aload_n 0, 1) := by decide +kernel
theorem dX10_begin_1 : decode cX10_begin 1 = .ok (.iconst 0, 1) := by decide +kernel
theorem dX10_begin_2 : decode cX10_begin 2 = .ok (.putfield 18, 3) := by decide +kernel
theorem dX10_begin_5 : decode cX10_begin 5 = .ok (.aload_n 0, 1) := by decide +kernel
theorem dX10_begin_6 : decode cX10_begin 6 = .ok (.iconst 0, 1) := by decide +kernel
theorem dX10_begin_7 : decode cX10_begin 7 = .ok (.putfield 22, 3) := by decide +kernel
theorem dX10_begin_10 : decode cX10_begin 10 = .ok (.return_, 1) := by decide +kernel
theorem dX10_write_0 : decode cX10_write 0 = .ok (.aload_n 0, 1) := by decide +kernel
theorem dX10_write_1 : decode cX10_write 1 = .ok (.getfield 18, 3) := by decide +kernel
theorem dX10_write_4 : decode cX10_write 4 = .ok (.aload_n 0, 1) := by decide +kernel
theorem dX10_write_5 : decode cX10_write 5 = .ok (.getfield 9, 3) := by decide +kernel
theorem dX10_write_8 : decode cX10_write 8 = .ok (.arraylength, 1) := by decide +kernel
theorem dX10_write_9 : decode cX10_write 9 = .ok (.if_icmp .ge 23, 3) := by decide +kernel
theorem dX10_write_12 : decode cX10_write 12 = .ok (.aload_n 0, 1) := by decide +kernel
theorem dX10_write_13 : decode cX10_write 13 = .ok (.getfield 9, 3) := by decide +kernel
theorem dX10_write_16 : decode cX10_write 16 = .ok (.aload_n 0, 1) := by decide +kernel
theorem dX10_write_17 : decode cX10_write 17 = .ok (.getfield 18, 3) := by decide +kernel
theorem dX10_write_20 : decode cX10_write 20 = .ok (.iload_n 1, 1) := by decide +kernel
theorem dX10_write_21 : decode cX10_write 21 = .ok (.iastore, 1) := by decide +kernel
theorem dX10_write_22 : decode cX10_write 22 = .ok (.aload_n 0, 1) := by decide +kernel
theorem dX10_write_23 : decode cX10_write 23 = .ok (.dup, 1) := by decide +kernel
theorem dX10_write_24 : decode cX10_write 24 = .ok (.getfield 18, 3) := by decide +kernel
theorem dX10_write_27 : decode cX10_write 27 = .ok (.iconst 1, 1) := by decide +kernel
theorem dX10_write_28 : decode cX10_write 28 = .ok (.iadd, 1) := by decide +kernel
theorem dX10_write_29 : decode cX10_write 29 = .ok (.putfield 18, 3) := by decide +kernel
theorem dX10_write_32 : decode cX10_write 32 = .ok (.return_, 1) := by decide +kernel
theorem dX10_hold_0 : decode cX10_hold 0 = .ok (.aload_n 0, 1) := by decide +kernel
theorem dX10_hold_1 : decode cX10_hold 1 = .ok (.getfield 22, 3) := by decide +kernel
theorem dX10_hold_4 : decode cX10_hold 4 = .ok (.aload_n 0, 1) := by decide +kernel
theorem dX10_hold_5 : decode cX10_hold 5 = .ok (.getfield 15, 3) := by decide +kernel
theorem dX10_hold_8 : decode cX10_hold 8 = .ok (.arraylength, 1) := by decide +kernel
theorem dX10_hold_9 : decode cX10_hold 9 = .ok (.if_icmp .ge 23, 3) := by decide +kernel
theorem dX10_hold_12 : decode cX10_hold 12 = .ok (.aload_n 0, 1) := by decide +kernel
theorem dX10_hold_13 : decode cX10_hold 13 = .ok (.getfield 15, 3) := by decide +kernel
theorem dX10_hold_16 : decode cX10_hold 16 = .ok (.aload_n 0, 1) := by decide +kernel
theorem dX10_hold_17 : decode cX10_hold 17 = .ok (.getfield 22, 3) := by decide +kernel
theorem dX10_hold_20 : decode cX10_hold 20 = .ok (.iload_n 1, 1) := by decide +kernel
theorem dX10_hold_21 : decode cX10_hold 21 = .ok (.iastore, 1) := by decide +kernel
theorem dX10_hold_22 : decode cX10_hold 22 = .ok (.aload_n 0, 1) := by decide +kernel
theorem dX10_hold_23 : decode cX10_hold 23 = .ok (.dup, 1) := by decide +kernel
theorem dX10_hold_24 : decode cX10_hold 24 = .ok (.getfield 22, 3) := by decide +kernel
theorem dX10_hold_27 : decode cX10_hold 27 = .ok (.iconst 1, 1) := by decide +kernel
theorem dX10_hold_28 : decode cX10_hold 28 = .ok (.iadd, 1) := by decide +kernel
theorem dX10_hold_29 : decode cX10_hold 29 = .ok (.putfield 22, 3) := by decide +kernel
theorem dX10_hold_32 : decode cX10_hold 32 = .ok (.return_, 1) := by decide +kernel
theorem dX10_endOne_0 : decode cX10_endOne 0 = .ok (.aload_n 0, 1) := by decide +kernel
theorem dX10_endOne_1 : decode cX10_endOne 1 = .ok (.bipush 10, 2) := by decide +kernel
theorem dX10_endOne_3 : decode cX10_endOne 3 = .ok (.invokevirtual 25, 3) := by decide +kernel
theorem dX10_endOne_6 : decode cX10_endOne 6 = .ok (.return_, 1) := by decide +kernel
theorem dX10_join_0 : decode cX10_join 0 = .ok (.aload_n 0, 1) := by decide +kernel
theorem dX10_join_1 : decode cX10_join 1 = .ok (.bipush 9, 2) := by decide +kernel
theorem dX10_join_3 : decode cX10_join 3 = .ok (.invokevirtual 25, 3) := by decide +kernel
theorem dX10_join_6 : decode cX10_join 6 = .ok (.aload_n 0, 1) := by decide +kernel
theorem dX10_join_7 : decode cX10_join 7 = .ok (.iload_n 1, 1) := by decide +kernel
theorem dX10_join_8 : decode cX10_join 8 = .ok (.invokevirtual 29, 3) := by decide +kernel
theorem dX10_join_11 : decode cX10_join 11 = .ok (.return_, 1) := by decide +kernel
theorem dX10_endAny_0 : decode cX10_endAny 0 = .ok (.aload_n 0, 1) := by decide +kernel
theorem dX10_endAny_1 : decode cX10_endAny 1 = .ok (.bipush 9, 2) := by decide +kernel
theorem dX10_endAny_3 : decode cX10_endAny 3 = .ok (.invokevirtual 25, 3) := by decide +kernel
theorem dX10_endAny_6 : decode cX10_endAny 6 = .ok (.aload_n 0, 1) := by decide +kernel
theorem dX10_endAny_7 : decode cX10_endAny 7 = .ok (.bipush 8, 2) := by decide +kernel
theorem dX10_endAny_9 : decode cX10_endAny 9 = .ok (.invokevirtual 25, 3) := by decide +kernel
theorem dX10_endAny_12 : decode cX10_endAny 12 = .ok (.return_, 1) := by decide +kernel
theorem dX10_closeBracket_0 : decode cX10_closeBracket 0 = .ok (.aload_n 0, 1) := by decide +kernel
theorem dX10_closeBracket_1 : decode cX10_closeBracket 1 = .ok (.bipush 9, 2) := by decide +kernel
theorem dX10_closeBracket_3 : decode cX10_closeBracket 3 = .ok (.invokevirtual 25, 3) := by decide +kernel
theorem dX10_closeBracket_6 : decode cX10_closeBracket 6 = .ok (.aload_n 0, 1) := by decide +kernel
theorem dX10_closeBracket_7 : decode cX10_closeBracket 7 = .ok (.bipush 8, 2) := by decide +kernel
theorem dX10_closeBracket_9 : decode cX10_closeBracket 9 = .ok (.invokevirtual 25, 3) := by decide +kernel
theorem dX10_closeBracket_12 : decode cX10_closeBracket 12 = .ok (.aload_n 0, 1) := by decide +kernel
theorem dX10_closeBracket_13 : decode cX10_closeBracket 13 = .ok (.getfield 22, 3) := by decide +kernel
theorem dX10_closeBracket_16 : decode cX10_closeBracket 16 = .ok (.ifCond .le 13, 3) := by decide +kernel
theorem dX10_closeBracket_19 : decode cX10_closeBracket 19 = .ok (.aload_n 0, 1) := by decide +kernel
theorem dX10_closeBracket_20 : decode cX10_closeBracket 20 = .ok (.dup, 1) := by decide +kernel
theorem dX10_closeBracket_21 : decode cX10_closeBracket 21 = .ok (.getfield 22, 3) := by decide +kernel
theorem dX10_closeBracket_24 : decode cX10_closeBracket 24 = .ok (.iconst 1, 1) := by decide +kernel
theorem dX10_closeBracket_25 : decode cX10_closeBracket 25 = .ok (.isub, 1) := by decide +kernel
theorem dX10_closeBracket_26 : decode cX10_closeBracket 26 = .ok (.putfield 22, 3) := by decide +kernel
theorem dX10_closeBracket_29 : decode cX10_closeBracket 29 = .ok (.aload_n 0, 1) := by decide +kernel
theorem dX10_closeBracket_30 : decode cX10_closeBracket 30 = .ok (.bipush 10, 2) := by decide +kernel
theorem dX10_closeBracket_32 : decode cX10_closeBracket 32 = .ok (.invokevirtual 25, 3) := by decide +kernel
theorem dX10_closeBracket_35 : decode cX10_closeBracket 35 = .ok (.return_, 1) := by decide +kernel
theorem dX10_release_0 : decode cX10_release 0 = .ok (.aload_n 0, 1) := by decide +kernel
theorem dX10_release_1 : decode cX10_release 1 = .ok (.getfield 22, 3) := by decide +kernel
theorem dX10_release_4 : decode cX10_release 4 = .ok (.ifCond .le 36, 3) := by decide +kernel
theorem dX10_release_7 : decode cX10_release 7 = .ok (.aload_n 0, 1) := by decide +kernel
theorem dX10_release_8 : decode cX10_release 8 = .ok (.getfield 15, 3) := by decide +kernel
theorem dX10_release_11 : decode cX10_release 11 = .ok (.aload_n 0, 1) := by decide +kernel
theorem dX10_release_12 : decode cX10_release 12 = .ok (.getfield 22, 3) := by decide +kernel
theorem dX10_release_15 : decode cX10_release 15 = .ok (.iconst 1, 1) := by decide +kernel
theorem dX10_release_16 : decode cX10_release 16 = .ok (.isub, 1) := by decide +kernel
theorem dX10_release_17 : decode cX10_release 17 = .ok (.iaload, 1) := by decide +kernel
theorem dX10_release_18 : decode cX10_release 18 = .ok (.iload_n 1, 1) := by decide +kernel
theorem dX10_release_19 : decode cX10_release 19 = .ok (.if_icmp .ne 21, 3) := by decide +kernel
theorem dX10_release_22 : decode cX10_release 22 = .ok (.aload_n 0, 1) := by decide +kernel
theorem dX10_release_23 : decode cX10_release 23 = .ok (.dup, 1) := by decide +kernel
theorem dX10_release_24 : decode cX10_release 24 = .ok (.getfield 22, 3) := by decide +kernel
theorem dX10_release_27 : decode cX10_release 27 = .ok (.iconst 1, 1) := by decide +kernel
theorem dX10_release_28 : decode cX10_release 28 = .ok (.isub, 1) := by decide +kernel
theorem dX10_release_29 : decode cX10_release 29 = .ok (.putfield 22, 3) := by decide +kernel
theorem dX10_release_32 : decode cX10_release 32 = .ok (.aload_n 0, 1) := by decide +kernel
theorem dX10_release_33 : decode cX10_release 33 = .ok (.iload_n 1, 1) := by decide +kernel
theorem dX10_release_34 : decode cX10_release 34 = .ok (.invokevirtual 32, 3) := by decide +kernel
theorem dX10_release_37 : decode cX10_release 37 = .ok (.goto (-37), 3) := by decide +kernel
theorem dX10_release_40 : decode cX10_release 40 = .ok (.return_, 1) := by decide +kernel
theorem dX11_init_0 : decode cX11_init 0 = .ok (.aload_n 0, 1) := by decide +kernel
theorem dX11_init_1 : decode cX11_init 1 = .ok (.invokespecial 3, 3) := by decide +kernel
theorem dX11_init_4 : decode cX11_init 4 = .ok (.aload_n 0, 1) := by decide +kernel
theorem dX11_init_5 : decode cX11_init 5 = .ok (.new 9, 3) := by decide +kernel
theorem dX11_init_8 : decode cX11_init 8 = .ok (.dup, 1) := by decide +kernel
theorem dX11_init_9 : decode cX11_init 9 = .ok (.invokespecial 11, 3) := by decide +kernel
theorem dX11_init_12 : decode cX11_init 12 = .ok (.putfield 12, 3) := by decide +kernel
theorem dX11_init_15 : decode cX11_init 15 = .ok (.aload_n 0, 1) := by decide +kernel
theorem dX11_init_16 : decode cX11_init 16 = .ok (.new 18, 3) := by decide +kernel
theorem dX11_init_19 : decode cX11_init 19 = .ok (.dup, 1) := by decide +kernel
theorem dX11_init_20 : decode cX11_init 20 = .ok (.aload_n 0, 1) := by decide +kernel
theorem dX11_init_21 : decode cX11_init 21 = .ok (.getfield 12, 3) := by decide +kernel
theorem dX11_init_24 : decode cX11_init 24 = .ok (.invokespecial 20, 3) := by decide +kernel
theorem dX11_init_27 : decode cX11_init 27 = .ok (.putfield 23, 3) := by decide +kernel
theorem dX11_init_30 : decode cX11_init 30 = .ok (.aload_n 0, 1) := by decide +kernel
theorem dX11_init_31 : decode cX11_init 31 = .ok (.new 27, 3) := by decide +kernel
theorem dX11_init_34 : decode cX11_init 34 = .ok (.dup, 1) := by decide +kernel
theorem dX11_init_35 : decode cX11_init 35 = .ok (.invokespecial 29, 3) := by decide +kernel
theorem dX11_init_38 : decode cX11_init 38 = .ok (.putfield 30, 3) := by decide +kernel
theorem dX11_init_41 : decode cX11_init 41 = .ok (.aload_n 0, 1) := by decide +kernel
theorem dX11_init_42 : decode cX11_init 42 = .ok (.new 34, 3) := by decide +kernel
theorem dX11_init_45 : decode cX11_init 45 = .ok (.dup, 1) := by decide +kernel
theorem dX11_init_46 : decode cX11_init 46 = .ok (.invokespecial 36, 3) := by decide +kernel
theorem dX11_init_49 : decode cX11_init 49 = .ok (.putfield 37, 3) := by decide +kernel
theorem dX11_init_52 : decode cX11_init 52 = .ok (.aload_n 0, 1) := by decide +kernel
theorem dX11_init_53 : decode cX11_init 53 = .ok (.new 27, 3) := by decide +kernel
theorem dX11_init_56 : decode cX11_init 56 = .ok (.dup, 1) := by decide +kernel
theorem dX11_init_57 : decode cX11_init 57 = .ok (.invokespecial 29, 3) := by decide +kernel
theorem dX11_init_60 : decode cX11_init 60 = .ok (.putfield 41, 3) := by decide +kernel
theorem dX11_init_63 : decode cX11_init 63 = .ok (.aload_n 0, 1) := by decide +kernel
theorem dX11_init_64 : decode cX11_init 64 = .ok (.new 27, 3) := by decide +kernel
theorem dX11_init_67 : decode cX11_init 67 = .ok (.dup, 1) := by decide +kernel
theorem dX11_init_68 : decode cX11_init 68 = .ok (.invokespecial 29, 3) := by decide +kernel
theorem dX11_init_71 : decode cX11_init 71 = .ok (.putfield 44, 3) := by decide +kernel
theorem dX11_init_74 : decode cX11_init 74 = .ok (.aload_n 0, 1) := by decide +kernel
theorem dX11_init_75 : decode cX11_init 75 = .ok (.new 27, 3) := by decide +kernel
theorem dX11_init_78 : decode cX11_init 78 = .ok (.dup, 1) := by decide +kernel
theorem dX11_init_79 : decode cX11_init 79 = .ok (.invokespecial 29, 3) := by decide +kernel
theorem dX11_init_82 : decode cX11_init 82 = .ok (.putfield 47, 3) := by decide +kernel
theorem dX11_init_85 : decode cX11_init 85 = .ok (.aload_n 0, 1) := by decide +kernel
theorem dX11_init_86 : decode cX11_init 86 = .ok (.new 50, 3) := by decide +kernel
theorem dX11_init_89 : decode cX11_init 89 = .ok (.dup, 1) := by decide +kernel
theorem dX11_init_90 : decode cX11_init 90 = .ok (.invokespecial 52, 3) := by decide +kernel
theorem dX11_init_93 : decode cX11_init 93 = .ok (.putfield 53, 3) := by decide +kernel
theorem dX11_init_96 : decode cX11_init 96 = .ok (.aload_n 0, 1) := by decide +kernel
theorem dX11_init_97 : decode cX11_init 97 = .ok (.new 27, 3) := by decide +kernel
theorem dX11_init_100 : decode cX11_init 100 = .ok (.dup, 1) := by decide +kernel
theorem dX11_init_101 : decode cX11_init 101 = .ok (.invokespecial 29, 3) := by decide +kernel
theorem dX11_init_104 : decode cX11_init 104 = .ok (.putfield 57, 3) := by decide +kernel
theorem dX11_init_107 : decode cX11_init 107 = .ok (.aload_n 0, 1) := by decide +kernel
theorem dX11_init_108 : decode cX11_init 108 = .ok (.new 60, 3) := by decide +kernel
theorem dX11_init_111 : decode cX11_init 111 = .ok (.dup, 1) := by decide +kernel
theorem dX11_init_112 : decode cX11_init 112 = .ok (.invokespecial 62, 3) := by decide +kernel
theorem dX11_init_115 : decode cX11_init 115 = .ok (.putfield 63, 3) := by decide +kernel
theorem dX11_init_118 : decode cX11_init 118 = .ok (.aload_n 0, 1) := by decide +kernel
theorem dX11_init_119 : decode cX11_init 119 = .ok (.bipush 10, 2) := by decide +kernel
theorem dX11_init_121 : decode cX11_init 121 = .ok (.putfield 67, 3) := by decide +kernel
theorem dX11_init_124 : decode cX11_init 124 = .ok (.return_, 1) := by decide +kernel
theorem dX11_will_0 : decode cX11_will 0 = .ok (.aload_n 0, 1) := by decide +kernel
theorem dX11_will_1 : decode cX11_will 1 = .ok (.getfield 71, 3) := by decide +kernel
theorem dX11_will_4 : decode cX11_will 4 = .ok (.iconst 4, 1) := by decide +kernel
theorem dX11_will_5 : decode cX11_will 5 = .ok (.if_icmp .lt 9, 3) := by decide +kernel
theorem dX11_will_8 : decode cX11_will 8 = .ok (.aload_n 0, 1) := by decide +kernel
theorem dX11_will_9 : decode cX11_will 9 = .ok (.iconst 3, 1) := by decide +kernel
theorem dX11_will_10 : decode cX11_will 10 = .ok (.invokevirtual 74, 3) := by decide +kernel
theorem dX11_will_13 : decode cX11_will 13 = .ok (.ireturn, 1) := by decide +kernel
theorem dX11_will_14 : decode cX11_will 14 = .ok (.aload_n 0, 1) := by decide +kernel
theorem dX11_will_15 : decode cX11_will 15 = .ok (.dup, 1) := by decide +kernel
theorem dX11_will_16 : decode cX11_will 16 = .ok (.getfield 71, 3) := by decide +kernel
theorem dX11_will_19 : decode cX11_will 19 = .ok (.iconst 1, 1) := by decide +kernel
theorem dX11_will_20 : decode cX11_will 20 = .ok (.iadd, 1) := by decide +kernel
theorem dX11_will_21 : decode cX11_will 21 = .ok (.putfield 71, 3) := by decide +kernel
theorem dX11_will_24 : decode cX11_will 24 = .ok (.aload_n 0, 1) := by decide +kernel
theorem dX11_will_25 : decode cX11_will 25 = .ok (.aload_n 0, 1) := by decide +kernel
theorem dX11_will_26 : decode cX11_will 26 = .ok (.getfield 71, 3) := by decide +kernel
theorem dX11_will_29 : decode cX11_will 29 = .ok (.iconst 1, 1) := by decide +kernel
theorem dX11_will_30 : decode cX11_will 30 = .ok (.isub, 1) := by decide +kernel
theorem dX11_will_31 : decode cX11_will 31 = .ok (.invokevirtual 78, 3) := by decide +kernel
theorem dX11_will_34 : decode cX11_will 34 = .ok (.ireturn, 1) := by decide +kernel
theorem dX11_feed_0 : decode cX11_feed 0 = .ok (.aload_n 0, 1) := by decide +kernel
theorem dX11_feed_1 : decode cX11_feed 1 = .ok (.getfield 12, 3) := by decide +kernel
theorem dX11_feed_4 : decode cX11_feed 4 = .ok (.getfield 81, 3) := by decide +kernel
theorem dX11_feed_7 : decode cX11_feed 7 = .ok (.bipush 20, 2) := by decide +kernel
theorem dX11_feed_9 : decode cX11_feed 9 = .ok (.iadd, 1) := by decide +kernel
theorem dX11_feed_10 : decode cX11_feed 10 = .ok (.sipush 300, 3) := by decide +kernel
theorem dX11_feed_13 : decode cX11_feed 13 = .ok (.if_icmp .le 5, 3) := by decide +kernel
theorem dX11_feed_16 : decode cX11_feed 16 = .ok (.iconst (-1), 1) := by decide +kernel
theorem dX11_feed_17 : decode cX11_feed 17 = .ok (.ireturn, 1) := by decide +kernel
theorem dX11_feed_18 : decode cX11_feed 18 = .ok (.aload_n 0, 1) := by decide +kernel
theorem dX11_feed_19 : decode cX11_feed 19 = .ok (.getfield 12, 3) := by decide +kernel
theorem dX11_feed_22 : decode cX11_feed 22 = .ok (.iload_n 1, 1) := by decide +kernel
theorem dX11_feed_23 : decode cX11_feed 23 = .ok (.invokevirtual 84, 3) := by decide +kernel
theorem dX11_feed_26 : decode cX11_feed 26 = .ok (.aload_n 0, 1) := by decide +kernel
theorem dX11_feed_27 : decode cX11_feed 27 = .ok (.getfield 12, 3) := by decide +kernel
theorem dX11_feed_30 : decode cX11_feed 30 = .ok (.iload_n 2, 1) := by decide +kernel
theorem dX11_feed_31 : decode cX11_feed 31 = .ok (.invokevirtual 84, 3) := by decide +kernel
theorem dX11_feed_34 : decode cX11_feed 34 = .ok (.aload_n 0, 1) := by decide +kernel
theorem dX11_feed_35 : decode cX11_feed 35 = .ok (.getfield 12, 3) := by decide +kernel
theorem dX11_feed_38 : decode cX11_feed 38 = .ok (.iload_n 3, 1) := by decide +kernel
theorem dX11_feed_39 : decode cX11_feed 39 = .ok (.invokevirtual 84, 3) := by decide +kernel
theorem dX11_feed_42 : decode cX11_feed 42 = .ok (.aload_n 0, 1) := by decide +kernel
theorem dX11_feed_43 : decode cX11_feed 43 = .ok (.getfield 12, 3) := by decide +kernel
theorem dX11_feed_46 : decode cX11_feed 46 = .ok (.iload 4, 2) := by decide +kernel
theorem dX11_feed_48 : decode cX11_feed 48 = .ok (.invokevirtual 84, 3) := by decide +kernel
theorem dX11_feed_51 : decode cX11_feed 51 = .ok (.aload_n 0, 1) := by decide +kernel
theorem dX11_feed_52 : decode cX11_feed 52 = .ok (.getfield 12, 3) := by decide +kernel
theorem dX11_feed_55 : decode cX11_feed 55 = .ok (.iload 5, 2) := by decide +kernel
theorem dX11_feed_57 : decode cX11_feed 57 = .ok (.invokevirtual 84, 3) := by decide +kernel
theorem dX11_feed_60 : decode cX11_feed 60 = .ok (.aload_n 0, 1) := by decide +kernel
theorem dX11_feed_61 : decode cX11_feed 61 = .ok (.getfield 12, 3) := by decide +kernel
theorem dX11_feed_64 : decode cX11_feed 64 = .ok (.getfield 81, 3) := by decide +kernel
theorem dX11_feed_67 : decode cX11_feed 67 = .ok (.ireturn, 1) := by decide +kernel
theorem dX11_scheme_0 : decode cX11_scheme 0 = .ok (.aload_n 0, 1) := by decide +kernel
theorem dX11_scheme_1 : decode cX11_scheme 1 = .ok (.iload_n 1, 1) := by decide +kernel
theorem dX11_scheme_2 : decode cX11_scheme 2 = .ok (.invokevirtual 88, 3) := by decide +kernel
theorem dX11_scheme_5 : decode cX11_scheme 5 = .ok (.ifCond .ne 9, 3) := by decide +kernel
theorem dX11_scheme_8 : decode cX11_scheme 8 = .ok (.aload_n 0, 1) := by decide +kernel
theorem dX11_scheme_9 : decode cX11_scheme 9 = .ok (.iconst 1, 1) := by decide +kernel
theorem dX11_scheme_10 : decode cX11_scheme 10 = .ok (.invokevirtual 74, 3) := by decide +kernel
theorem dX11_scheme_13 : decode cX11_scheme 13 = .ok (.ireturn, 1) := by decide +kernel
theorem dX11_scheme_14 : decode cX11_scheme 14 = .ok (.iload_n 2, 1) := by decide +kernel
theorem dX11_scheme_15 : decode cX11_scheme 15 = .ok (.invokestatic 92, 3) := by decide +kernel
theorem dX11_scheme_18 : decode cX11_scheme 18 = .ok (.ifCond .eq 18, 3) := by decide +kernel
theorem dX11_scheme_21 : decode cX11_scheme 21 = .ok (.iload_n 3, 1) := by decide +kernel
theorem dX11_scheme_22 : decode cX11_scheme 22 = .ok (.ifCond .lt 14, 3) := by decide +kernel
theorem dX11_scheme_25 : decode cX11_scheme 25 = .ok (.iload_n 3, 1) := by decide +kernel
theorem dX11_scheme_26 : decode cX11_scheme 26 = .ok (.aload_n 0, 1) := by decide +kernel
theorem dX11_scheme_27 : decode cX11_scheme 27 = .ok (.getfield 12, 3) := by decide +kernel
theorem dX11_scheme_30 : decode cX11_scheme 30 = .ok (.getfield 81, 3) := by decide +kernel
theorem dX11_scheme_33 : decode cX11_scheme 33 = .ok (.if_icmp .le 9, 3) := by decide +kernel
theorem dX11_scheme_36 : decode cX11_scheme 36 = .ok (.aload_n 0, 1) := by decide +kernel
theorem dX11_scheme_37 : decode cX11_scheme 37 = .ok (.iconst 2, 1) := by decide +kernel
theorem dX11_scheme_38 : decode cX11_scheme 38 = .ok (.invokevirtual 74, 3) := by decide +kernel
theorem dX11_scheme_41 : decode cX11_scheme 41 = .ok (.ireturn, 1) := by decide +kernel
theorem dX11_scheme_42 : decode cX11_scheme 42 = .ok (.aload_n 0, 1) := by decide +kernel
theorem dX11_scheme_43 : decode cX11_scheme 43 = .ok (.aload_n 0, 1) := by decide +kernel
theorem dX11_scheme_44 : decode cX11_scheme 44 = .ok (.getfield 23, 3) := by decide +kernel
theorem dX11_scheme_47 : decode cX11_scheme 47 = .ok (.iload_n 3, 1) := by decide +kernel
theorem dX11_scheme_48 : decode cX11_scheme 48 = .ok (.invokevirtual 95, 3) := by decide +kernel
theorem dX11_scheme_51 : decode cX11_scheme 51 = .ok (.putfield 98, 3) := by decide +kernel
theorem dX11_scheme_54 : decode cX11_scheme 54 = .ok (.aload_n 0, 1) := by decide +kernel
theorem dX11_scheme_55 : decode cX11_scheme 55 = .ok (.aload_n 0, 1) := by decide +kernel
theorem dX11_scheme_56 : decode cX11_scheme 56 = .ok (.getfield 12, 3) := by decide +kernel
theorem dX11_scheme_59 : decode cX11_scheme 59 = .ok (.getfield 101, 3) := by decide +kernel
theorem dX11_scheme_62 : decode cX11_scheme 62 = .ok (.putfield 104, 3) := by decide +kernel
theorem dX11_scheme_65 : decode cX11_scheme 65 = .ok (.aload_n 0, 1) := by decide +kernel
theorem dX11_scheme_66 : decode cX11_scheme 66 = .ok (.getfield 12, 3) := by decide +kernel
theorem dX11_scheme_69 : decode cX11_scheme 69 = .ok (.iconst 0, 1) := by decide +kernel
theorem dX11_scheme_70 : decode cX11_scheme 70 = .ok (.putfield 81, 3) := by decide +kernel
theorem dX11_scheme_73 : decode cX11_scheme 73 = .ok (.aload_n 0, 1) := by decide +kernel
theorem dX11_scheme_74 : decode cX11_scheme 74 = .ok (.getfield 98, 3) := by decide +kernel
theorem dX11_scheme_77 : decode cX11_scheme 77 = .ok (.ifCond .eq 9, 3) := by decide +kernel
theorem dX11_scheme_80 : decode cX11_scheme 80 = .ok (.aload_n 0, 1) := by decide +kernel
theorem dX11_scheme_81 : decode cX11_scheme 81 = .ok (.iconst 4, 1) := by decide +kernel
theorem dX11_scheme_82 : decode cX11_scheme 82 = .ok (.invokevirtual 74, 3) := by decide +kernel
theorem dX11_scheme_85 : decode cX11_scheme 85 = .ok (.ireturn, 1) := by decide +kernel
theorem dX11_scheme_86 : decode cX11_scheme 86 = .ok (.aload_n 0, 1) := by decide +kernel
theorem dX11_scheme_87 : decode cX11_scheme 87 = .ok (.getfield 107, 3) := by decide +kernel
theorem dX11_scheme_90 : decode cX11_scheme 90 = .ok (.bipush 40, 2) := by decide +kernel
theorem dX11_scheme_92 : decode cX11_scheme 92 = .ok (.if_icmp .lt 9, 3) := by decide +kernel
theorem dX11_scheme_95 : decode cX11_scheme 95 = .ok (.aload_n 0, 1) := by decide +kernel
theorem dX11_scheme_96 : decode cX11_scheme 96 = .ok (.iconst 3, 1) := by decide +kernel
theorem dX11_scheme_97 : decode cX11_scheme 97 = .ok (.invokevirtual 74, 3) := by decide +kernel
theorem dX11_scheme_100 : decode cX11_scheme 100 = .ok (.ireturn, 1) := by decide +kernel
theorem dX11_scheme_101 : decode cX11_scheme 101 = .ok (.aload_n 0, 1) := by decide +kernel
theorem dX11_scheme_102 : decode cX11_scheme 102 = .ok (.iload_n 1, 1) := by decide +kernel
theorem dX11_scheme_103 : decode cX11_scheme 103 = .ok (.iload_n 2, 1) := by decide +kernel
theorem dX11_scheme_104 : decode cX11_scheme 104 = .ok (.invokevirtual 110, 3) := by decide +kernel
theorem dX11_scheme_107 : decode cX11_scheme 107 = .ok (.aload_n 0, 1) := by decide +kernel
theorem dX11_scheme_108 : decode cX11_scheme 108 = .ok (.dup, 1) := by decide +kernel
theorem dX11_scheme_109 : decode cX11_scheme 109 = .ok (.getfield 107, 3) := by decide +kernel
theorem dX11_scheme_112 : decode cX11_scheme 112 = .ok (.iconst 1, 1) := by decide +kernel
theorem dX11_scheme_113 : decode cX11_scheme 113 = .ok (.iadd, 1) := by decide +kernel
theorem dX11_scheme_114 : decode cX11_scheme 114 = .ok (.putfield 107, 3) := by decide +kernel
theorem dX11_scheme_117 : decode cX11_scheme 117 = .ok (.aload_n 0, 1) := by decide +kernel
theorem dX11_scheme_118 : decode cX11_scheme 118 = .ok (.aload_n 0, 1) := by decide +kernel
theorem dX11_scheme_119 : decode cX11_scheme 119 = .ok (.getfield 107, 3) := by decide +kernel
theorem dX11_scheme_122 : decode cX11_scheme 122 = .ok (.iconst 1, 1) := by decide +kernel
theorem dX11_scheme_123 : decode cX11_scheme 123 = .ok (.isub, 1) := by decide +kernel
theorem dX11_scheme_124 : decode cX11_scheme 124 = .ok (.invokevirtual 78, 3) := by decide +kernel
theorem dX11_scheme_127 : decode cX11_scheme 127 = .ok (.ireturn, 1) := by decide +kernel
theorem dX11_fault_0 : decode cX11_fault 0 = .ok (.aload_n 0, 1) := by decide +kernel
theorem dX11_fault_1 : decode cX11_fault 1 = .ok (.getfield 98, 3) := by decide +kernel
theorem dX11_fault_4 : decode cX11_fault 4 = .ok (.ireturn, 1) := by decide +kernel
theorem dX11_where_0 : decode cX11_where 0 = .ok (.aload_n 0, 1) := by decide +kernel
theorem dX11_where_1 : decode cX11_where 1 = .ok (.getfield 114, 3) := by decide +kernel
theorem dX11_where_4 : decode cX11_where 4 = .ok (.iconst 4, 1) := by decide +kernel
theorem dX11_where_5 : decode cX11_where 5 = .ok (.if_icmp .ne 10, 3) := by decide +kernel
theorem dX11_where_8 : decode cX11_where 8 = .ok (.aload_n 0, 1) := by decide +kernel
theorem dX11_where_9 : decode cX11_where 9 = .ok (.getfield 104, 3) := by decide +kernel
theorem dX11_where_12 : decode cX11_where 12 = .ok (.goto 4, 3) := by decide +kernel
theorem dX11_where_15 : decode cX11_where 15 = .ok (.iconst (-1), 1) := by decide +kernel
theorem dX11_where_16 : decode cX11_where 16 = .ok (.ireturn, 1) := by decide +kernel
theorem dX11_clause_0 : decode cX11_clause 0 = .ok (.aload_n 0, 1) := by decide +kernel
theorem dX11_clause_1 : decode cX11_clause 1 = .ok (.iload_n 1, 1) := by decide +kernel
theorem dX11_clause_2 : decode cX11_clause 2 = .ok (.invokevirtual 88, 3) := by decide +kernel
theorem dX11_clause_5 : decode cX11_clause 5 = .ok (.ifCond .eq 21, 3) := by decide +kernel
theorem dX11_clause_8 : decode cX11_clause 8 = .ok (.iload_n 2, 1) := by decide +kernel
theorem dX11_clause_9 : decode cX11_clause 9 = .ok (.iconst 1, 1) := by decide +kernel
theorem dX11_clause_10 : decode cX11_clause 10 = .ok (.if_icmp .lt 16, 3) := by decide +kernel
theorem dX11_clause_13 : decode cX11_clause 13 = .ok (.iload_n 2, 1) := by decide +kernel
theorem dX11_clause_14 : decode cX11_clause 14 = .ok (.bipush 12, 2) := by decide +kernel
theorem dX11_clause_16 : decode cX11_clause 16 = .ok (.if_icmp .gt 10, 3) := by decide +kernel
theorem dX11_clause_19 : decode cX11_clause 19 = .ok (.iload_n 3, 1) := by decide +kernel
theorem dX11_clause_20 : decode cX11_clause 20 = .ok (.invokestatic 92, 3) := by decide +kernel
theorem dX11_clause_23 : decode cX11_clause 23 = .ok (.ifCond .ne 5, 3) := by decide +kernel
theorem dX11_clause_26 : decode cX11_clause 26 = .ok (.iconst (-1), 1) := by decide +kernel
theorem dX11_clause_27 : decode cX11_clause 27 = .ok (.ireturn, 1) := by decide +kernel
theorem dX11_clause_28 : decode cX11_clause 28 = .ok (.aload_n 0, 1) := by decide +kernel
theorem dX11_clause_29 : decode cX11_clause 29 = .ok (.getfield 37, 3) := by decide +kernel
theorem dX11_clause_32 : decode cX11_clause 32 = .ok (.aload_n 0, 1) := by decide +kernel
theorem dX11_clause_33 : decode cX11_clause 33 = .ok (.getfield 30, 3) := by decide +kernel
theorem dX11_clause_36 : decode cX11_clause 36 = .ok (.iload_n 1, 1) := by decide +kernel
theorem dX11_clause_37 : decode cX11_clause 37 = .ok (.iload_n 3, 1) := by decide +kernel
theorem dX11_clause_38 : decode cX11_clause 38 = .ok (.invokevirtual 117, 3) := by decide +kernel
theorem dX11_clause_41 : decode cX11_clause 41 = .ok (.aload_n 0, 1) := by decide +kernel
theorem dX11_clause_42 : decode cX11_clause 42 = .ok (.getfield 37, 3) := by decide +kernel
theorem dX11_clause_45 : decode cX11_clause 45 = .ok (.iload_n 2, 1) := by decide +kernel
theorem dX11_clause_46 : decode cX11_clause 46 = .ok (.invokevirtual 121, 3) := by decide +kernel
theorem dX11_clause_49 : decode cX11_clause 49 = .ok (.astore 4, 2) := by decide +kernel
theorem dX11_clause_51 : decode cX11_clause 51 = .ok (.aload 4, 2) := by decide +kernel
theorem dX11_clause_53 : decode cX11_clause 53 = .ok (.ifnonnull 8, 3) := by decide +kernel
theorem dX11_clause_56 : decode cX11_clause 56 = .ok (.bipush (-2), 2) := by decide +kernel
theorem dX11_clause_58 : decode cX11_clause 58 = .ok (.goto 8, 3) := by decide +kernel
theorem dX11_clause_61 : decode cX11_clause 61 = .ok (.aload 4, 2) := by decide +kernel
theorem dX11_clause_63 : decode cX11_clause 63 = .ok (.getfield 125, 3) := by decide +kernel
theorem dX11_clause_66 : decode cX11_clause 66 = .ok (.ireturn, 1) := by decide +kernel
theorem dX11_clauses_0 : decode cX11_clauses 0 = .ok (.aload_n 0, 1) := by decide +kernel
theorem dX11_clauses_1 : decode cX11_clauses 1 = .ok (.iload_n 1, 1) := by decide +kernel
theorem dX11_clauses_2 : decode cX11_clauses 2 = .ok (.invokevirtual 88, 3) := by decide +kernel
theorem dX11_clauses_5 : decode cX11_clauses 5 = .ok (.ifCond .eq 10, 3) := by decide +kernel
theorem dX11_clauses_8 : decode cX11_clauses 8 = .ok (.iload_n 2, 1) := by decide +kernel
theorem dX11_clauses_9 : decode cX11_clauses 9 = .ok (.invokestatic 92, 3) := by decide +kernel
theorem dX11_clauses_12 : decode cX11_clauses 12 = .ok (.ifCond .ne 5, 3) := by decide +kernel
theorem dX11_clauses_15 : decode cX11_clauses 15 = .ok (.iconst (-1), 1) := by decide +kernel
theorem dX11_clauses_16 : decode cX11_clauses 16 = .ok (.ireturn, 1) := by decide +kernel
theorem dX11_clauses_17 : decode cX11_clauses 17 = .ok (.aload_n 0, 1) := by decide +kernel
theorem dX11_clauses_18 : decode cX11_clauses 18 = .ok (.getfield 37, 3) := by decide +kernel
theorem dX11_clauses_21 : decode cX11_clauses 21 = .ok (.aload_n 0, 1) := by decide +kernel
theorem dX11_clauses_22 : decode cX11_clauses 22 = .ok (.getfield 30, 3) := by decide +kernel
theorem dX11_clauses_25 : decode cX11_clauses 25 = .ok (.iload_n 1, 1) := by decide +kernel
theorem dX11_clauses_26 : decode cX11_clauses 26 = .ok (.iload_n 2, 1) := by decide +kernel
theorem dX11_clauses_27 : decode cX11_clauses 27 = .ok (.invokevirtual 117, 3) := by decide +kernel
theorem dX11_clauses_30 : decode cX11_clauses 30 = .ok (.aload_n 0, 1) := by decide +kernel
theorem dX11_clauses_31 : decode cX11_clauses 31 = .ok (.getfield 37, 3) := by decide +kernel
theorem dX11_clauses_34 : decode cX11_clauses 34 = .ok (.invokevirtual 130, 3) := by decide +kernel
theorem dX11_clauses_37 : decode cX11_clauses 37 = .ok (.ireturn, 1) := by decide +kernel
theorem dX11_person_0 : decode cX11_person 0 = .ok (.iload_n 1, 1) := by decide +kernel
theorem dX11_person_1 : decode cX11_person 1 = .ok (.ldc 134, 2) := by decide +kernel
theorem dX11_person_3 : decode cX11_person 3 = .ok (.if_icmp .lt 24, 3) := by decide +kernel
theorem dX11_person_6 : decode cX11_person 6 = .ok (.iload_n 1, 1) := by decide +kernel
theorem dX11_person_7 : decode cX11_person 7 = .ok (.aload_n 0, 1) := by decide +kernel
theorem dX11_person_8 : decode cX11_person 8 = .ok (.getfield 135, 3) := by decide +kernel
theorem dX11_person_11 : decode cX11_person 11 = .ok (.if_icmp .gt 16, 3) := by decide +kernel
theorem dX11_person_14 : decode cX11_person 14 = .ok (.iload_n 2, 1) := by decide +kernel
theorem dX11_person_15 : decode cX11_person 15 = .ok (.iload_n 1, 1) := by decide +kernel
theorem dX11_person_16 : decode cX11_person 16 = .ok (.if_icmp .lt 11, 3) := by decide +kernel
theorem dX11_person_19 : decode cX11_person 19 = .ok (.iload_n 2, 1) := by decide +kernel
theorem dX11_person_20 : decode cX11_person 20 = .ok (.aload_n 0, 1) := by decide +kernel
theorem dX11_person_21 : decode cX11_person 21 = .ok (.getfield 135, 3) := by decide +kernel
theorem dX11_person_24 : decode cX11_person 24 = .ok (.if_icmp .le 9, 3) := by decide +kernel
theorem dX11_person_27 : decode cX11_person 27 = .ok (.aload_n 0, 1) := by decide +kernel
theorem dX11_person_28 : decode cX11_person 28 = .ok (.iconst 2, 1) := by decide +kernel
theorem dX11_person_29 : decode cX11_person 29 = .ok (.invokevirtual 74, 3) := by decide +kernel
theorem dX11_person_32 : decode cX11_person 32 = .ok (.ireturn, 1) := by decide +kernel
theorem dX11_person_33 : decode cX11_person 33 = .ok (.aload_n 0, 1) := by decide +kernel
theorem dX11_person_34 : decode cX11_person 34 = .ok (.getfield 41, 3) := by decide +kernel
theorem dX11_person_37 : decode cX11_person 37 = .ok (.invokevirtual 138, 3) := by decide +kernel
theorem dX11_person_40 : decode cX11_person 40 = .ok (.bipush 40, 2) := by decide +kernel
theorem dX11_person_42 : decode cX11_person 42 = .ok (.if_icmp .lt 9, 3) := by decide +kernel
theorem dX11_person_45 : decode cX11_person 45 = .ok (.aload_n 0, 1) := by decide +kernel
theorem dX11_person_46 : decode cX11_person 46 = .ok (.iconst 3, 1) := by decide +kernel
theorem dX11_person_47 : decode cX11_person 47 = .ok (.invokevirtual 74, 3) := by decide +kernel
theorem dX11_person_50 : decode cX11_person 50 = .ok (.ireturn, 1) := by decide +kernel
theorem dX11_person_51 : decode cX11_person 51 = .ok (.aload_n 0, 1) := by decide +kernel
theorem dX11_person_52 : decode cX11_person 52 = .ok (.getfield 41, 3) := by decide +kernel
theorem dX11_person_55 : decode cX11_person 55 = .ok (.new 141, 3) := by decide +kernel
theorem dX11_person_58 : decode cX11_person 58 = .ok (.dup, 1) := by decide +kernel
theorem dX11_person_59 : decode cX11_person 59 = .ok (.iload_n 1, 1) := by decide +kernel
theorem dX11_person_60 : decode cX11_person 60 = .ok (.iload_n 2, 1) := by decide +kernel
theorem dX11_person_61 : decode cX11_person 61 = .ok (.iload_n 3, 1) := by decide +kernel
theorem dX11_person_62 : decode cX11_person 62 = .ok (.aload_n 0, 1) := by decide +kernel
theorem dX11_person_63 : decode cX11_person 63 = .ok (.getfield 135, 3) := by decide +kernel
theorem dX11_person_66 : decode cX11_person 66 = .ok (.invokespecial 143, 3) := by decide +kernel
theorem dX11_person_69 : decode cX11_person 69 = .ok (.invokevirtual 146, 3) := by decide +kernel
theorem dX11_person_72 : decode cX11_person 72 = .ok (.pop, 1) := by decide +kernel
theorem dX11_person_73 : decode cX11_person 73 = .ok (.aload_n 0, 1) := by decide +kernel
theorem dX11_person_74 : decode cX11_person 74 = .ok (.aload_n 0, 1) := by decide +kernel
theorem dX11_person_75 : decode cX11_person 75 = .ok (.getfield 41, 3) := by decide +kernel
theorem dX11_person_78 : decode cX11_person 78 = .ok (.invokevirtual 138, 3) := by decide +kernel
theorem dX11_person_81 : decode cX11_person 81 = .ok (.iconst 1, 1) := by decide +kernel
theorem dX11_person_82 : decode cX11_person 82 = .ok (.isub, 1) := by decide +kernel
theorem dX11_person_83 : decode cX11_person 83 = .ok (.invokevirtual 78, 3) := by decide +kernel
theorem dX11_person_86 : decode cX11_person 86 = .ok (.ireturn, 1) := by decide +kernel
theorem dX11_means_0 : decode cX11_means 0 = .ok (.aload_n 0, 1) := by decide +kernel
theorem dX11_means_1 : decode cX11_means 1 = .ok (.iload_n 1, 1) := by decide +kernel
theorem dX11_means_2 : decode cX11_means 2 = .ok (.invokevirtual 150, 3) := by decide +kernel
theorem dX11_means_5 : decode cX11_means 5 = .ok (.astore 4, 2) := by decide +kernel
theorem dX11_means_7 : decode cX11_means 7 = .ok (.aload 4, 2) := by decide +kernel
theorem dX11_means_9 : decode cX11_means 9 = .ok (.ifnonnull 9, 3) := by decide +kernel
theorem dX11_means_12 : decode cX11_means 12 = .ok (.aload_n 0, 1) := by decide +kernel
theorem dX11_means_13 : decode cX11_means 13 = .ok (.iconst 1, 1) := by decide +kernel
theorem dX11_means_14 : decode cX11_means 14 = .ok (.invokevirtual 74, 3) := by decide +kernel
theorem dX11_means_17 : decode cX11_means 17 = .ok (.ireturn, 1) := by decide +kernel
theorem dX11_means_18 : decode cX11_means 18 = .ok (.iload_n 2, 1) := by decide +kernel
theorem dX11_means_19 : decode cX11_means 19 = .ok (.invokestatic 92, 3) := by decide +kernel
theorem dX11_means_22 : decode cX11_means 22 = .ok (.ifCond .eq 14, 3) := by decide +kernel
theorem dX11_means_25 : decode cX11_means 25 = .ok (.iload_n 3, 1) := by decide +kernel
theorem dX11_means_26 : decode cX11_means 26 = .ok (.ifCond .lt 10, 3) := by decide +kernel
theorem dX11_means_29 : decode cX11_means 29 = .ok (.iload_n 3, 1) := by decide +kernel
theorem dX11_means_30 : decode cX11_means 30 = .ok (.sipush 9999, 3) := by decide +kernel
theorem dX11_means_33 : decode cX11_means 33 = .ok (.if_icmp .le 9, 3) := by decide +kernel
theorem dX11_means_36 : decode cX11_means 36 = .ok (.aload_n 0, 1) := by decide +kernel
theorem dX11_means_37 : decode cX11_means 37 = .ok (.iconst 2, 1) := by decide +kernel
theorem dX11_means_38 : decode cX11_means 38 = .ok (.invokevirtual 74, 3) := by decide +kernel
theorem dX11_means_41 : decode cX11_means 41 = .ok (.ireturn, 1) := by decide +kernel
theorem dX11_means_42 : decode cX11_means 42 = .ok (.aload 4, 2) := by decide +kernel
theorem dX11_means_44 : decode cX11_means 44 = .ok (.getfield 154, 3) := by decide +kernel
theorem dX11_means_47 : decode cX11_means 47 = .ok (.bipush 6, 2) := by decide +kernel
theorem dX11_means_49 : decode cX11_means 49 = .ok (.if_icmp .lt 9, 3) := by decide +kernel
theorem dX11_means_52 : decode cX11_means 52 = .ok (.aload_n 0, 1) := by decide +kernel
theorem dX11_means_53 : decode cX11_means 53 = .ok (.iconst 3, 1) := by decide +kernel
theorem dX11_means_54 : decode cX11_means 54 = .ok (.invokevirtual 74, 3) := by decide +kernel
theorem dX11_means_57 : decode cX11_means 57 = .ok (.ireturn, 1) := by decide +kernel
theorem dX11_means_58 : decode cX11_means 58 = .ok (.aload 4, 2) := by decide +kernel
theorem dX11_means_60 : decode cX11_means 60 = .ok (.iload_n 2, 1) := by decide +kernel
theorem dX11_means_61 : decode cX11_means 61 = .ok (.iload_n 3, 1) := by decide +kernel
theorem dX11_means_62 : decode cX11_means 62 = .ok (.invokevirtual 157, 3) := by decide +kernel
theorem dX11_means_65 : decode cX11_means 65 = .ok (.aload_n 0, 1) := by decide +kernel
theorem dX11_means_66 : decode cX11_means 66 = .ok (.aload 4, 2) := by decide +kernel
theorem dX11_means_68 : decode cX11_means 68 = .ok (.getfield 154, 3) := by decide +kernel
theorem dX11_means_71 : decode cX11_means 71 = .ok (.invokevirtual 78, 3) := by decide +kernel
theorem dX11_means_74 : decode cX11_means 74 = .ok (.ireturn, 1) := by decide +kernel
theorem dX11_dies_0 : decode cX11_dies 0 = .ok (.aload_n 0, 1) := by decide +kernel
theorem dX11_dies_1 : decode cX11_dies 1 = .ok (.iload_n 1, 1) := by decide +kernel
theorem dX11_dies_2 : decode cX11_dies 2 = .ok (.invokevirtual 150, 3) := by decide +kernel
theorem dX11_dies_5 : decode cX11_dies 5 = .ok (.astore_n 2, 1) := by decide +kernel
theorem dX11_dies_6 : decode cX11_dies 6 = .ok (.aload_n 2, 1) := by decide +kernel
theorem dX11_dies_7 : decode cX11_dies 7 = .ok (.ifnonnull 11, 3) := by decide +kernel
theorem dX11_dies_10 : decode cX11_dies 10 = .ok (.aload_n 0, 1) := by decide +kernel
theorem dX11_dies_11 : decode cX11_dies 11 = .ok (.iconst 1, 1) := by decide +kernel
theorem dX11_dies_12 : decode cX11_dies 12 = .ok (.invokevirtual 74, 3) := by decide +kernel
theorem dX11_dies_15 : decode cX11_dies 15 = .ok (.pop, 1) := by decide +kernel
theorem dX11_dies_16 : decode cX11_dies 16 = .ok (.iconst 0, 1) := by decide +kernel
theorem dX11_dies_17 : decode cX11_dies 17 = .ok (.ireturn, 1) := by decide +kernel
theorem dX11_dies_18 : decode cX11_dies 18 = .ok (.aload_n 2, 1) := by decide +kernel
theorem dX11_dies_19 : decode cX11_dies 19 = .ok (.getfield 160, 3) := by decide +kernel
theorem dX11_dies_22 : decode cX11_dies 22 = .ok (.ldc 163, 2) := by decide +kernel
theorem dX11_dies_24 : decode cX11_dies 24 = .ok (.if_icmp .eq 11, 3) := by decide +kernel
theorem dX11_dies_27 : decode cX11_dies 27 = .ok (.aload_n 0, 1) := by decide +kernel
theorem dX11_dies_28 : decode cX11_dies 28 = .ok (.iconst 5, 1) := by decide +kernel
theorem dX11_dies_29 : decode cX11_dies 29 = .ok (.invokevirtual 74, 3) := by decide +kernel
theorem dX11_dies_32 : decode cX11_dies 32 = .ok (.pop, 1) := by decide +kernel
theorem dX11_dies_33 : decode cX11_dies 33 = .ok (.iconst 0, 1) := by decide +kernel
theorem dX11_dies_34 : decode cX11_dies 34 = .ok (.ireturn, 1) := by decide +kernel
theorem dX11_dies_35 : decode cX11_dies 35 = .ok (.aload_n 2, 1) := by decide +kernel
theorem dX11_dies_36 : decode cX11_dies 36 = .ok (.aload_n 0, 1) := by decide +kernel
theorem dX11_dies_37 : decode cX11_dies 37 = .ok (.getfield 135, 3) := by decide +kernel
theorem dX11_dies_40 : decode cX11_dies 40 = .ok (.putfield 160, 3) := by decide +kernel
theorem dX11_dies_43 : decode cX11_dies 43 = .ok (.aload_n 0, 1) := by decide +kernel
theorem dX11_dies_44 : decode cX11_dies 44 = .ok (.aload_n 0, 1) := by decide +kernel
theorem dX11_dies_45 : decode cX11_dies 45 = .ok (.aload_n 2, 1) := by decide +kernel
theorem dX11_dies_46 : decode cX11_dies 46 = .ok (.getfield 164, 3) := by decide +kernel
theorem dX11_dies_49 : decode cX11_dies 49 = .ok (.invokevirtual 167, 3) := by decide +kernel
theorem dX11_dies_52 : decode cX11_dies 52 = .ok (.invokevirtual 171, 3) := by decide +kernel
theorem dX11_dies_55 : decode cX11_dies 55 = .ok (.aload_n 0, 1) := by decide +kernel
theorem dX11_dies_56 : decode cX11_dies 56 = .ok (.iconst 0, 1) := by decide +kernel
theorem dX11_dies_57 : decode cX11_dies 57 = .ok (.invokevirtual 78, 3) := by decide +kernel
theorem dX11_dies_60 : decode cX11_dies 60 = .ok (.pop, 1) := by decide +kernel
theorem dX11_dies_61 : decode cX11_dies 61 = .ok (.iconst 1, 1) := by decide +kernel
theorem dX11_dies_62 : decode cX11_dies 62 = .ok (.ireturn, 1) := by decide +kernel
theorem dX11_fact_0 : decode cX11_fact 0 = .ok (.aload_n 0, 1) := by decide +kernel
theorem dX11_fact_1 : decode cX11_fact 1 = .ok (.iload_n 1, 1) := by decide +kernel
theorem dX11_fact_2 : decode cX11_fact 2 = .ok (.invokevirtual 150, 3) := by decide +kernel
theorem dX11_fact_5 : decode cX11_fact 5 = .ok (.astore 4, 2) := by decide +kernel
theorem dX11_fact_7 : decode cX11_fact 7 = .ok (.aload 4, 2) := by decide +kernel
theorem dX11_fact_9 : decode cX11_fact 9 = .ok (.ifnull 19, 3) := by decide +kernel
theorem dX11_fact_12 : decode cX11_fact 12 = .ok (.iload_n 2, 1) := by decide +kernel
theorem dX11_fact_13 : decode cX11_fact 13 = .ok (.invokestatic 92, 3) := by decide +kernel
theorem dX11_fact_16 : decode cX11_fact 16 = .ok (.ifCond .eq 12, 3) := by decide +kernel
theorem dX11_fact_19 : decode cX11_fact 19 = .ok (.iload_n 3, 1) := by decide +kernel
theorem dX11_fact_20 : decode cX11_fact 20 = .ok (.ifCond .lt 8, 3) := by decide +kernel
end
section
theorem dX11_fact_23 : decode cX11_fact 23 = .ok (.iload_n 3, 1) := by decide +kernel
theorem dX11_fact_24 : decode cX11_fact 24 = .ok (.iconst 4, 1) := by decide +kernel
theorem dX11_fact_25 : decode cX11_fact 25 = .ok (.if_icmp .le 5, 3) := by decide +kernel
theorem dX11_fact_28 : decode cX11_fact 28 = .ok (.iconst (-1), 1) := by decide +kernel
theorem dX11_fact_29 : decode cX11_fact 29 = .ok (.ireturn, 1) := by decide +kernel
theorem dX11_fact_30 : decode cX11_fact 30 = .ok (.aload 4, 2) := by decide +kernel
theorem dX11_fact_32 : decode cX11_fact 32 = .ok (.iload_n 3, 1) := by decide +kernel
theorem dX11_fact_33 : decode cX11_fact 33 = .ok (.iload_n 2, 1) := by decide +kernel
theorem dX11_fact_34 : decode cX11_fact 34 = .ok (.invokevirtual 175, 3) := by decide +kernel
theorem dX11_fact_37 : decode cX11_fact 37 = .ok (.ireturn, 1) := by decide +kernel
theorem dX11_may_0 : decode cX11_may 0 = .ok (.aload_n 0, 1) := by decide +kernel
theorem dX11_may_1 : decode cX11_may 1 = .ok (.iload_n 1, 1) := by decide +kernel
theorem dX11_may_2 : decode cX11_may 2 = .ok (.invokevirtual 150, 3) := by decide +kernel
theorem dX11_may_5 : decode cX11_may 5 = .ok (.astore 4, 2) := by decide +kernel
theorem dX11_may_7 : decode cX11_may 7 = .ok (.aload 4, 2) := by decide +kernel
theorem dX11_may_9 : decode cX11_may 9 = .ok (.ifnull 18, 3) := by decide +kernel
theorem dX11_may_12 : decode cX11_may 12 = .ok (.aload_n 0, 1) := by decide +kernel
theorem dX11_may_13 : decode cX11_may 13 = .ok (.iload_n 2, 1) := by decide +kernel
theorem dX11_may_14 : decode cX11_may 14 = .ok (.invokevirtual 88, 3) := by decide +kernel
theorem dX11_may_17 : decode cX11_may 17 = .ok (.ifCond .eq 10, 3) := by decide +kernel
theorem dX11_may_20 : decode cX11_may 20 = .ok (.iload_n 3, 1) := by decide +kernel
theorem dX11_may_21 : decode cX11_may 21 = .ok (.invokestatic 92, 3) := by decide +kernel
theorem dX11_may_24 : decode cX11_may 24 = .ok (.ifCond .ne 5, 3) := by decide +kernel
theorem dX11_may_27 : decode cX11_may 27 = .ok (.iconst (-1), 1) := by decide +kernel
theorem dX11_may_28 : decode cX11_may 28 = .ok (.ireturn, 1) := by decide +kernel
theorem dX11_may_29 : decode cX11_may 29 = .ok (.aload_n 0, 1) := by decide +kernel
theorem dX11_may_30 : decode cX11_may 30 = .ok (.getfield 37, 3) := by decide +kernel
theorem dX11_may_33 : decode cX11_may 33 = .ok (.aload_n 0, 1) := by decide +kernel
theorem dX11_may_34 : decode cX11_may 34 = .ok (.getfield 30, 3) := by decide +kernel
theorem dX11_may_37 : decode cX11_may 37 = .ok (.iload_n 2, 1) := by decide +kernel
theorem dX11_may_38 : decode cX11_may 38 = .ok (.iload_n 3, 1) := by decide +kernel
theorem dX11_may_39 : decode cX11_may 39 = .ok (.invokevirtual 117, 3) := by decide +kernel
theorem dX11_may_42 : decode cX11_may 42 = .ok (.aload_n 0, 1) := by decide +kernel
theorem dX11_may_43 : decode cX11_may 43 = .ok (.getfield 37, 3) := by decide +kernel
theorem dX11_may_46 : decode cX11_may 46 = .ok (.aload 4, 2) := by decide +kernel
theorem dX11_may_48 : decode cX11_may 48 = .ok (.iload_n 3, 1) := by decide +kernel
theorem dX11_may_49 : decode cX11_may 49 = .ok (.invokevirtual 179, 3) := by decide +kernel
theorem dX11_may_52 : decode cX11_may 52 = .ok (.ifCond .eq 7, 3) := by decide +kernel
theorem dX11_may_55 : decode cX11_may 55 = .ok (.iconst 1, 1) := by decide +kernel
theorem dX11_may_56 : decode cX11_may 56 = .ok (.goto 4, 3) := by decide +kernel
theorem dX11_may_59 : decode cX11_may 59 = .ok (.iconst 0, 1) := by decide +kernel
theorem dX11_may_60 : decode cX11_may 60 = .ok (.ireturn, 1) := by decide +kernel
theorem dX11_bars_0 : decode cX11_bars 0 = .ok (.aload_n 0, 1) := by decide +kernel
theorem dX11_bars_1 : decode cX11_bars 1 = .ok (.iload_n 1, 1) := by decide +kernel
theorem dX11_bars_2 : decode cX11_bars 2 = .ok (.invokevirtual 150, 3) := by decide +kernel
theorem dX11_bars_5 : decode cX11_bars 5 = .ok (.astore 4, 2) := by decide +kernel
theorem dX11_bars_7 : decode cX11_bars 7 = .ok (.aload 4, 2) := by decide +kernel
theorem dX11_bars_9 : decode cX11_bars 9 = .ok (.ifnull 18, 3) := by decide +kernel
theorem dX11_bars_12 : decode cX11_bars 12 = .ok (.aload_n 0, 1) := by decide +kernel
theorem dX11_bars_13 : decode cX11_bars 13 = .ok (.iload_n 2, 1) := by decide +kernel
theorem dX11_bars_14 : decode cX11_bars 14 = .ok (.invokevirtual 88, 3) := by decide +kernel
theorem dX11_bars_17 : decode cX11_bars 17 = .ok (.ifCond .eq 10, 3) := by decide +kernel
theorem dX11_bars_20 : decode cX11_bars 20 = .ok (.iload_n 3, 1) := by decide +kernel
theorem dX11_bars_21 : decode cX11_bars 21 = .ok (.invokestatic 92, 3) := by decide +kernel
theorem dX11_bars_24 : decode cX11_bars 24 = .ok (.ifCond .ne 5, 3) := by decide +kernel
theorem dX11_bars_27 : decode cX11_bars 27 = .ok (.iconst (-1), 1) := by decide +kernel
theorem dX11_bars_28 : decode cX11_bars 28 = .ok (.ireturn, 1) := by decide +kernel
theorem dX11_bars_29 : decode cX11_bars 29 = .ok (.aload_n 0, 1) := by decide +kernel
theorem dX11_bars_30 : decode cX11_bars 30 = .ok (.getfield 37, 3) := by decide +kernel
theorem dX11_bars_33 : decode cX11_bars 33 = .ok (.aload_n 0, 1) := by decide +kernel
theorem dX11_bars_34 : decode cX11_bars 34 = .ok (.getfield 30, 3) := by decide +kernel
theorem dX11_bars_37 : decode cX11_bars 37 = .ok (.iload_n 2, 1) := by decide +kernel
theorem dX11_bars_38 : decode cX11_bars 38 = .ok (.iload_n 3, 1) := by decide +kernel
theorem dX11_bars_39 : decode cX11_bars 39 = .ok (.invokevirtual 117, 3) := by decide +kernel
theorem dX11_bars_42 : decode cX11_bars 42 = .ok (.aload_n 0, 1) := by decide +kernel
theorem dX11_bars_43 : decode cX11_bars 43 = .ok (.getfield 37, 3) := by decide +kernel
theorem dX11_bars_46 : decode cX11_bars 46 = .ok (.aload 4, 2) := by decide +kernel
theorem dX11_bars_48 : decode cX11_bars 48 = .ok (.iload_n 3, 1) := by decide +kernel
theorem dX11_bars_49 : decode cX11_bars 49 = .ok (.invokevirtual 183, 3) := by decide +kernel
theorem dX11_bars_52 : decode cX11_bars 52 = .ok (.ireturn, 1) := by decide +kernel
theorem dX11_order_0 : decode cX11_order 0 = .ok (.aload_n 0, 1) := by decide +kernel
theorem dX11_order_1 : decode cX11_order 1 = .ok (.iload_n 1, 1) := by decide +kernel
theorem dX11_order_2 : decode cX11_order 2 = .ok (.invokevirtual 150, 3) := by decide +kernel
theorem dX11_order_5 : decode cX11_order 5 = .ok (.astore 4, 2) := by decide +kernel
theorem dX11_order_7 : decode cX11_order 7 = .ok (.aload 4, 2) := by decide +kernel
theorem dX11_order_9 : decode cX11_order 9 = .ok (.ifnull 18, 3) := by decide +kernel
theorem dX11_order_12 : decode cX11_order 12 = .ok (.aload_n 0, 1) := by decide +kernel
theorem dX11_order_13 : decode cX11_order 13 = .ok (.iload_n 2, 1) := by decide +kernel
theorem dX11_order_14 : decode cX11_order 14 = .ok (.invokevirtual 88, 3) := by decide +kernel
theorem dX11_order_17 : decode cX11_order 17 = .ok (.ifCond .eq 10, 3) := by decide +kernel
theorem dX11_order_20 : decode cX11_order 20 = .ok (.iload_n 3, 1) := by decide +kernel
theorem dX11_order_21 : decode cX11_order 21 = .ok (.invokestatic 92, 3) := by decide +kernel
theorem dX11_order_24 : decode cX11_order 24 = .ok (.ifCond .ne 5, 3) := by decide +kernel
theorem dX11_order_27 : decode cX11_order 27 = .ok (.iconst (-1), 1) := by decide +kernel
theorem dX11_order_28 : decode cX11_order 28 = .ok (.ireturn, 1) := by decide +kernel
theorem dX11_order_29 : decode cX11_order 29 = .ok (.aload_n 0, 1) := by decide +kernel
theorem dX11_order_30 : decode cX11_order 30 = .ok (.getfield 37, 3) := by decide +kernel
theorem dX11_order_33 : decode cX11_order 33 = .ok (.aload_n 0, 1) := by decide +kernel
theorem dX11_order_34 : decode cX11_order 34 = .ok (.getfield 30, 3) := by decide +kernel
theorem dX11_order_37 : decode cX11_order 37 = .ok (.iload_n 2, 1) := by decide +kernel
theorem dX11_order_38 : decode cX11_order 38 = .ok (.iload_n 3, 1) := by decide +kernel
theorem dX11_order_39 : decode cX11_order 39 = .ok (.invokevirtual 117, 3) := by decide +kernel
theorem dX11_order_42 : decode cX11_order 42 = .ok (.aload_n 0, 1) := by decide +kernel
theorem dX11_order_43 : decode cX11_order 43 = .ok (.getfield 37, 3) := by decide +kernel
theorem dX11_order_46 : decode cX11_order 46 = .ok (.aload 4, 2) := by decide +kernel
theorem dX11_order_48 : decode cX11_order 48 = .ok (.iload_n 3, 1) := by decide +kernel
theorem dX11_order_49 : decode cX11_order 49 = .ok (.invokevirtual 187, 3) := by decide +kernel
theorem dX11_order_52 : decode cX11_order 52 = .ok (.ireturn, 1) := by decide +kernel
theorem dX11_list_0 : decode cX11_list 0 = .ok (.aload_n 0, 1) := by decide +kernel
theorem dX11_list_1 : decode cX11_list 1 = .ok (.iload_n 1, 1) := by decide +kernel
theorem dX11_list_2 : decode cX11_list 2 = .ok (.invokevirtual 88, 3) := by decide +kernel
theorem dX11_list_5 : decode cX11_list 5 = .ok (.ifCond .eq 10, 3) := by decide +kernel
theorem dX11_list_8 : decode cX11_list 8 = .ok (.iload_n 2, 1) := by decide +kernel
theorem dX11_list_9 : decode cX11_list 9 = .ok (.invokestatic 92, 3) := by decide +kernel
theorem dX11_list_12 : decode cX11_list 12 = .ok (.ifCond .ne 5, 3) := by decide +kernel
theorem dX11_list_15 : decode cX11_list 15 = .ok (.iconst (-1), 1) := by decide +kernel
theorem dX11_list_16 : decode cX11_list 16 = .ok (.ireturn, 1) := by decide +kernel
theorem dX11_list_17 : decode cX11_list 17 = .ok (.aload_n 0, 1) := by decide +kernel
theorem dX11_list_18 : decode cX11_list 18 = .ok (.getfield 37, 3) := by decide +kernel
theorem dX11_list_21 : decode cX11_list 21 = .ok (.aload_n 0, 1) := by decide +kernel
theorem dX11_list_22 : decode cX11_list 22 = .ok (.getfield 30, 3) := by decide +kernel
theorem dX11_list_25 : decode cX11_list 25 = .ok (.iload_n 1, 1) := by decide +kernel
theorem dX11_list_26 : decode cX11_list 26 = .ok (.iload_n 2, 1) := by decide +kernel
theorem dX11_list_27 : decode cX11_list 27 = .ok (.invokevirtual 117, 3) := by decide +kernel
theorem dX11_list_30 : decode cX11_list 30 = .ok (.iconst 0, 1) := by decide +kernel
theorem dX11_list_31 : decode cX11_list 31 = .ok (.istore_n 3, 1) := by decide +kernel
theorem dX11_list_32 : decode cX11_list 32 = .ok (.iconst 0, 1) := by decide +kernel
theorem dX11_list_33 : decode cX11_list 33 = .ok (.istore 4, 2) := by decide +kernel
theorem dX11_list_35 : decode cX11_list 35 = .ok (.iload 4, 2) := by decide +kernel
theorem dX11_list_37 : decode cX11_list 37 = .ok (.aload_n 0, 1) := by decide +kernel
theorem dX11_list_38 : decode cX11_list 38 = .ok (.getfield 41, 3) := by decide +kernel
theorem dX11_list_41 : decode cX11_list 41 = .ok (.invokevirtual 138, 3) := by decide +kernel
theorem dX11_list_44 : decode cX11_list 44 = .ok (.if_icmp .ge 35, 3) := by decide +kernel
theorem dX11_list_47 : decode cX11_list 47 = .ok (.aload_n 0, 1) := by decide +kernel
theorem dX11_list_48 : decode cX11_list 48 = .ok (.getfield 37, 3) := by decide +kernel
theorem dX11_list_51 : decode cX11_list 51 = .ok (.aload_n 0, 1) := by decide +kernel
theorem dX11_list_52 : decode cX11_list 52 = .ok (.getfield 41, 3) := by decide +kernel
theorem dX11_list_55 : decode cX11_list 55 = .ok (.iload 4, 2) := by decide +kernel
theorem dX11_list_57 : decode cX11_list 57 = .ok (.invokevirtual 190, 3) := by decide +kernel
theorem dX11_list_60 : decode cX11_list 60 = .ok (.checkcast 141, 3) := by decide +kernel
theorem dX11_list_63 : decode cX11_list 63 = .ok (.iload_n 2, 1) := by decide +kernel
theorem dX11_list_64 : decode cX11_list 64 = .ok (.invokevirtual 179, 3) := by decide +kernel
theorem dX11_list_67 : decode cX11_list 67 = .ok (.ifCond .eq 6, 3) := by decide +kernel
theorem dX11_list_70 : decode cX11_list 70 = .ok (.iinc 3 1, 3) := by decide +kernel
theorem dX11_list_73 : decode cX11_list 73 = .ok (.iinc 4 1, 3) := by decide +kernel
theorem dX11_list_76 : decode cX11_list 76 = .ok (.goto (-41), 3) := by decide +kernel
theorem dX11_list_79 : decode cX11_list 79 = .ok (.iload_n 3, 1) := by decide +kernel
theorem dX11_list_80 : decode cX11_list 80 = .ok (.ireturn, 1) := by decide +kernel
theorem dX11_next_0 : decode cX11_next 0 = .ok (.aload_n 0, 1) := by decide +kernel
theorem dX11_next_1 : decode cX11_next 1 = .ok (.iload_n 1, 1) := by decide +kernel
theorem dX11_next_2 : decode cX11_next 2 = .ok (.invokevirtual 88, 3) := by decide +kernel
theorem dX11_next_5 : decode cX11_next 5 = .ok (.ifCond .eq 10, 3) := by decide +kernel
theorem dX11_next_8 : decode cX11_next 8 = .ok (.iload_n 2, 1) := by decide +kernel
theorem dX11_next_9 : decode cX11_next 9 = .ok (.invokestatic 92, 3) := by decide +kernel
theorem dX11_next_12 : decode cX11_next 12 = .ok (.ifCond .ne 5, 3) := by decide +kernel
theorem dX11_next_15 : decode cX11_next 15 = .ok (.iconst (-1), 1) := by decide +kernel
theorem dX11_next_16 : decode cX11_next 16 = .ok (.ireturn, 1) := by decide +kernel
theorem dX11_next_17 : decode cX11_next 17 = .ok (.aload_n 0, 1) := by decide +kernel
theorem dX11_next_18 : decode cX11_next 18 = .ok (.iload_n 1, 1) := by decide +kernel
theorem dX11_next_19 : decode cX11_next 19 = .ok (.iload_n 2, 1) := by decide +kernel
theorem dX11_next_20 : decode cX11_next 20 = .ok (.invokevirtual 194, 3) := by decide +kernel
theorem dX11_next_23 : decode cX11_next 23 = .ok (.ireturn, 1) := by decide +kernel
theorem dX11_room_0 : decode cX11_room 0 = .ok (.aload_n 0, 1) := by decide +kernel
theorem dX11_room_1 : decode cX11_room 1 = .ok (.iload_n 1, 1) := by decide +kernel
theorem dX11_room_2 : decode cX11_room 2 = .ok (.invokevirtual 88, 3) := by decide +kernel
theorem dX11_room_5 : decode cX11_room 5 = .ok (.ifCond .ne 9, 3) := by decide +kernel
theorem dX11_room_8 : decode cX11_room 8 = .ok (.aload_n 0, 1) := by decide +kernel
theorem dX11_room_9 : decode cX11_room 9 = .ok (.iconst 1, 1) := by decide +kernel
theorem dX11_room_10 : decode cX11_room 10 = .ok (.invokevirtual 74, 3) := by decide +kernel
theorem dX11_room_13 : decode cX11_room 13 = .ok (.ireturn, 1) := by decide +kernel
theorem dX11_room_14 : decode cX11_room 14 = .ok (.aload_n 0, 1) := by decide +kernel
theorem dX11_room_15 : decode cX11_room 15 = .ok (.getfield 44, 3) := by decide +kernel
theorem dX11_room_18 : decode cX11_room 18 = .ok (.invokevirtual 138, 3) := by decide +kernel
theorem dX11_room_21 : decode cX11_room 21 = .ok (.bipush 20, 2) := by decide +kernel
theorem dX11_room_23 : decode cX11_room 23 = .ok (.if_icmp .lt 9, 3) := by decide +kernel
theorem dX11_room_26 : decode cX11_room 26 = .ok (.aload_n 0, 1) := by decide +kernel
theorem dX11_room_27 : decode cX11_room 27 = .ok (.iconst 3, 1) := by decide +kernel
theorem dX11_room_28 : decode cX11_room 28 = .ok (.invokevirtual 74, 3) := by decide +kernel
theorem dX11_room_31 : decode cX11_room 31 = .ok (.ireturn, 1) := by decide +kernel
theorem dX11_room_32 : decode cX11_room 32 = .ok (.aload_n 0, 1) := by decide +kernel
theorem dX11_room_33 : decode cX11_room 33 = .ok (.getfield 44, 3) := by decide +kernel
theorem dX11_room_36 : decode cX11_room 36 = .ok (.new 197, 3) := by decide +kernel
theorem dX11_room_39 : decode cX11_room 39 = .ok (.dup, 1) := by decide +kernel
theorem dX11_room_40 : decode cX11_room 40 = .ok (.iload_n 1, 1) := by decide +kernel
theorem dX11_room_41 : decode cX11_room 41 = .ok (.invokespecial 199, 3) := by decide +kernel
theorem dX11_room_44 : decode cX11_room 44 = .ok (.invokevirtual 146, 3) := by decide +kernel
theorem dX11_room_47 : decode cX11_room 47 = .ok (.pop, 1) := by decide +kernel
theorem dX11_room_48 : decode cX11_room 48 = .ok (.aload_n 0, 1) := by decide +kernel
theorem dX11_room_49 : decode cX11_room 49 = .ok (.aload_n 0, 1) := by decide +kernel
theorem dX11_room_50 : decode cX11_room 50 = .ok (.getfield 44, 3) := by decide +kernel
theorem dX11_room_53 : decode cX11_room 53 = .ok (.invokevirtual 138, 3) := by decide +kernel
theorem dX11_room_56 : decode cX11_room 56 = .ok (.iconst 1, 1) := by decide +kernel
theorem dX11_room_57 : decode cX11_room 57 = .ok (.isub, 1) := by decide +kernel
theorem dX11_room_58 : decode cX11_room 58 = .ok (.invokevirtual 78, 3) := by decide +kernel
theorem dX11_room_61 : decode cX11_room 61 = .ok (.ireturn, 1) := by decide +kernel
theorem dX11_trustee_0 : decode cX11_trustee 0 = .ok (.aload_n 0, 1) := by decide +kernel
theorem dX11_trustee_1 : decode cX11_trustee 1 = .ok (.getfield 53, 3) := by decide +kernel
theorem dX11_trustee_4 : decode cX11_trustee 4 = .ok (.getfield 201, 3) := by decide +kernel
theorem dX11_trustee_7 : decode cX11_trustee 7 = .ok (.bipush 8, 2) := by decide +kernel
theorem dX11_trustee_9 : decode cX11_trustee 9 = .ok (.if_icmp .lt 9, 3) := by decide +kernel
theorem dX11_trustee_12 : decode cX11_trustee 12 = .ok (.aload_n 0, 1) := by decide +kernel
theorem dX11_trustee_13 : decode cX11_trustee 13 = .ok (.iconst 3, 1) := by decide +kernel
theorem dX11_trustee_14 : decode cX11_trustee 14 = .ok (.invokevirtual 74, 3) := by decide +kernel
theorem dX11_trustee_17 : decode cX11_trustee 17 = .ok (.ireturn, 1) := by decide +kernel
theorem dX11_trustee_18 : decode cX11_trustee 18 = .ok (.aload_n 0, 1) := by decide +kernel
theorem dX11_trustee_19 : decode cX11_trustee 19 = .ok (.getfield 53, 3) := by decide +kernel
theorem dX11_trustee_22 : decode cX11_trustee 22 = .ok (.dup, 1) := by decide +kernel
theorem dX11_trustee_23 : decode cX11_trustee 23 = .ok (.getfield 201, 3) := by decide +kernel
theorem dX11_trustee_26 : decode cX11_trustee 26 = .ok (.iconst 1, 1) := by decide +kernel
theorem dX11_trustee_27 : decode cX11_trustee 27 = .ok (.iadd, 1) := by decide +kernel
theorem dX11_trustee_28 : decode cX11_trustee 28 = .ok (.putfield 201, 3) := by decide +kernel
theorem dX11_trustee_31 : decode cX11_trustee 31 = .ok (.aload_n 0, 1) := by decide +kernel
theorem dX11_trustee_32 : decode cX11_trustee 32 = .ok (.aload_n 0, 1) := by decide +kernel
theorem dX11_trustee_33 : decode cX11_trustee 33 = .ok (.getfield 53, 3) := by decide +kernel
theorem dX11_trustee_36 : decode cX11_trustee 36 = .ok (.getfield 201, 3) := by decide +kernel
theorem dX11_trustee_39 : decode cX11_trustee 39 = .ok (.iconst 1, 1) := by decide +kernel
theorem dX11_trustee_40 : decode cX11_trustee 40 = .ok (.isub, 1) := by decide +kernel
theorem dX11_trustee_41 : decode cX11_trustee 41 = .ok (.invokevirtual 78, 3) := by decide +kernel
theorem dX11_trustee_44 : decode cX11_trustee 44 = .ok (.ireturn, 1) := by decide +kernel
theorem dX11_away_0 : decode cX11_away 0 = .ok (.iload_n 1, 1) := by decide +kernel
theorem dX11_away_1 : decode cX11_away 1 = .ok (.ifCond .lt 14, 3) := by decide +kernel
theorem dX11_away_4 : decode cX11_away 4 = .ok (.iload_n 1, 1) := by decide +kernel
theorem dX11_away_5 : decode cX11_away 5 = .ok (.aload_n 0, 1) := by decide +kernel
theorem dX11_away_6 : decode cX11_away 6 = .ok (.getfield 53, 3) := by decide +kernel
theorem dX11_away_9 : decode cX11_away 9 = .ok (.getfield 201, 3) := by decide +kernel
theorem dX11_away_12 : decode cX11_away 12 = .ok (.if_icmp .lt 11, 3) := by decide +kernel
theorem dX11_away_15 : decode cX11_away 15 = .ok (.aload_n 0, 1) := by decide +kernel
theorem dX11_away_16 : decode cX11_away 16 = .ok (.iconst 1, 1) := by decide +kernel
theorem dX11_away_17 : decode cX11_away 17 = .ok (.invokevirtual 74, 3) := by decide +kernel
theorem dX11_away_20 : decode cX11_away 20 = .ok (.pop, 1) := by decide +kernel
theorem dX11_away_21 : decode cX11_away 21 = .ok (.iconst 0, 1) := by decide +kernel
theorem dX11_away_22 : decode cX11_away 22 = .ok (.ireturn, 1) := by decide +kernel
theorem dX11_away_23 : decode cX11_away 23 = .ok (.aload_n 0, 1) := by decide +kernel
theorem dX11_away_24 : decode cX11_away 24 = .ok (.getfield 53, 3) := by decide +kernel
theorem dX11_away_27 : decode cX11_away 27 = .ok (.iload_n 1, 1) := by decide +kernel
theorem dX11_away_28 : decode cX11_away 28 = .ok (.iload_n 2, 1) := by decide +kernel
theorem dX11_away_29 : decode cX11_away 29 = .ok (.invokevirtual 203, 3) := by decide +kernel
theorem dX11_away_32 : decode cX11_away 32 = .ok (.aload_n 0, 1) := by decide +kernel
theorem dX11_away_33 : decode cX11_away 33 = .ok (.iconst 0, 1) := by decide +kernel
theorem dX11_away_34 : decode cX11_away 34 = .ok (.invokevirtual 78, 3) := by decide +kernel
theorem dX11_away_37 : decode cX11_away 37 = .ok (.pop, 1) := by decide +kernel
theorem dX11_away_38 : decode cX11_away 38 = .ok (.iconst 1, 1) := by decide +kernel
theorem dX11_away_39 : decode cX11_away 39 = .ok (.ireturn, 1) := by decide +kernel
theorem dX11_fill_0 : decode cX11_fill 0 = .ok (.aload_n 0, 1) := by decide +kernel
theorem dX11_fill_1 : decode cX11_fill 1 = .ok (.iload_n 1, 1) := by decide +kernel
theorem dX11_fill_2 : decode cX11_fill 2 = .ok (.invokevirtual 167, 3) := by decide +kernel
theorem dX11_fill_5 : decode cX11_fill 5 = .ok (.astore_n 2, 1) := by decide +kernel
theorem dX11_fill_6 : decode cX11_fill 6 = .ok (.aload_n 2, 1) := by decide +kernel
theorem dX11_fill_7 : decode cX11_fill 7 = .ok (.ifnonnull 9, 3) := by decide +kernel
theorem dX11_fill_10 : decode cX11_fill 10 = .ok (.aload_n 0, 1) := by decide +kernel
theorem dX11_fill_11 : decode cX11_fill 11 = .ok (.iconst 1, 1) := by decide +kernel
theorem dX11_fill_12 : decode cX11_fill 12 = .ok (.invokevirtual 74, 3) := by decide +kernel
theorem dX11_fill_15 : decode cX11_fill 15 = .ok (.ireturn, 1) := by decide +kernel
theorem dX11_fill_16 : decode cX11_fill 16 = .ok (.aload_n 2, 1) := by decide +kernel
theorem dX11_fill_17 : decode cX11_fill 17 = .ok (.getfield 207, 3) := by decide +kernel
theorem dX11_fill_20 : decode cX11_fill 20 = .ok (.ifnull 9, 3) := by decide +kernel
theorem dX11_fill_23 : decode cX11_fill 23 = .ok (.aload_n 0, 1) := by decide +kernel
theorem dX11_fill_24 : decode cX11_fill 24 = .ok (.iconst 5, 1) := by decide +kernel
theorem dX11_fill_25 : decode cX11_fill 25 = .ok (.invokevirtual 74, 3) := by decide +kernel
theorem dX11_fill_28 : decode cX11_fill 28 = .ok (.ireturn, 1) := by decide +kernel
theorem dX11_fill_29 : decode cX11_fill 29 = .ok (.aload_n 0, 1) := by decide +kernel
theorem dX11_fill_30 : decode cX11_fill 30 = .ok (.getfield 53, 3) := by decide +kernel
theorem dX11_fill_33 : decode cX11_fill 33 = .ok (.invokevirtual 211, 3) := by decide +kernel
theorem dX11_fill_36 : decode cX11_fill 36 = .ok (.istore_n 3, 1) := by decide +kernel
theorem dX11_fill_37 : decode cX11_fill 37 = .ok (.aload_n 0, 1) := by decide +kernel
theorem dX11_fill_38 : decode cX11_fill 38 = .ok (.aload_n 2, 1) := by decide +kernel
theorem dX11_fill_39 : decode cX11_fill 39 = .ok (.getfield 214, 3) := by decide +kernel
theorem dX11_fill_42 : decode cX11_fill 42 = .ok (.aload_n 0, 1) := by decide +kernel
theorem dX11_fill_43 : decode cX11_fill 43 = .ok (.getfield 135, 3) := by decide +kernel
theorem dX11_fill_46 : decode cX11_fill 46 = .ok (.invokevirtual 194, 3) := by decide +kernel
theorem dX11_fill_49 : decode cX11_fill 49 = .ok (.istore 4, 2) := by decide +kernel
theorem dX11_fill_51 : decode cX11_fill 51 = .ok (.aload_n 0, 1) := by decide +kernel
theorem dX11_fill_52 : decode cX11_fill 52 = .ok (.iload 4, 2) := by decide +kernel
theorem dX11_fill_54 : decode cX11_fill 54 = .ok (.invokevirtual 150, 3) := by decide +kernel
theorem dX11_fill_57 : decode cX11_fill 57 = .ok (.astore 5, 2) := by decide +kernel
theorem dX11_fill_59 : decode cX11_fill 59 = .ok (.iload_n 3, 1) := by decide +kernel
theorem dX11_fill_60 : decode cX11_fill 60 = .ok (.iconst (-1), 1) := by decide +kernel
theorem dX11_fill_61 : decode cX11_fill 61 = .ok (.if_icmp .eq 8, 3) := by decide +kernel
theorem dX11_fill_64 : decode cX11_fill 64 = .ok (.aload 5, 2) := by decide +kernel
theorem dX11_fill_66 : decode cX11_fill 66 = .ok (.ifnonnull 10, 3) := by decide +kernel
theorem dX11_fill_69 : decode cX11_fill 69 = .ok (.aload_n 0, 1) := by decide +kernel
theorem dX11_fill_70 : decode cX11_fill 70 = .ok (.bipush 6, 2) := by decide +kernel
theorem dX11_fill_72 : decode cX11_fill 72 = .ok (.invokevirtual 74, 3) := by decide +kernel
theorem dX11_fill_75 : decode cX11_fill 75 = .ok (.ireturn, 1) := by decide +kernel
theorem dX11_fill_76 : decode cX11_fill 76 = .ok (.aload_n 0, 1) := by decide +kernel
theorem dX11_fill_77 : decode cX11_fill 77 = .ok (.getfield 47, 3) := by decide +kernel
theorem dX11_fill_80 : decode cX11_fill 80 = .ok (.invokevirtual 138, 3) := by decide +kernel
theorem dX11_fill_83 : decode cX11_fill 83 = .ok (.bipush 100, 2) := by decide +kernel
theorem dX11_fill_85 : decode cX11_fill 85 = .ok (.if_icmp .lt 9, 3) := by decide +kernel
theorem dX11_fill_88 : decode cX11_fill 88 = .ok (.aload_n 0, 1) := by decide +kernel
theorem dX11_fill_89 : decode cX11_fill 89 = .ok (.iconst 3, 1) := by decide +kernel
theorem dX11_fill_90 : decode cX11_fill 90 = .ok (.invokevirtual 74, 3) := by decide +kernel
theorem dX11_fill_93 : decode cX11_fill 93 = .ok (.ireturn, 1) := by decide +kernel
theorem dX11_fill_94 : decode cX11_fill 94 = .ok (.new 217, 3) := by decide +kernel
theorem dX11_fill_97 : decode cX11_fill 97 = .ok (.dup, 1) := by decide +kernel
theorem dX11_fill_98 : decode cX11_fill 98 = .ok (.iload_n 1, 1) := by decide +kernel
theorem dX11_fill_99 : decode cX11_fill 99 = .ok (.iload 4, 2) := by decide +kernel
theorem dX11_fill_101 : decode cX11_fill 101 = .ok (.aload_n 0, 1) := by decide +kernel
theorem dX11_fill_102 : decode cX11_fill 102 = .ok (.getfield 135, 3) := by decide +kernel
theorem dX11_fill_105 : decode cX11_fill 105 = .ok (.invokespecial 219, 3) := by decide +kernel
theorem dX11_fill_108 : decode cX11_fill 108 = .ok (.astore 6, 2) := by decide +kernel
theorem dX11_fill_110 : decode cX11_fill 110 = .ok (.aload_n 0, 1) := by decide +kernel
theorem dX11_fill_111 : decode cX11_fill 111 = .ok (.getfield 47, 3) := by decide +kernel
theorem dX11_fill_114 : decode cX11_fill 114 = .ok (.aload 6, 2) := by decide +kernel
theorem dX11_fill_116 : decode cX11_fill 116 = .ok (.invokevirtual 146, 3) := by decide +kernel
theorem dX11_fill_119 : decode cX11_fill 119 = .ok (.pop, 1) := by decide +kernel
theorem dX11_fill_120 : decode cX11_fill 120 = .ok (.aload_n 2, 1) := by decide +kernel
theorem dX11_fill_121 : decode cX11_fill 121 = .ok (.aload 6, 2) := by decide +kernel
theorem dX11_fill_123 : decode cX11_fill 123 = .ok (.putfield 207, 3) := by decide +kernel
theorem dX11_fill_126 : decode cX11_fill 126 = .ok (.aload_n 2, 1) := by decide +kernel
theorem dX11_fill_127 : decode cX11_fill 127 = .ok (.iload_n 3, 1) := by decide +kernel
theorem dX11_fill_128 : decode cX11_fill 128 = .ok (.putfield 222, 3) := by decide +kernel
theorem dX11_fill_131 : decode cX11_fill 131 = .ok (.aload 5, 2) := by decide +kernel
theorem dX11_fill_133 : decode cX11_fill 133 = .ok (.iload_n 1, 1) := by decide +kernel
theorem dX11_fill_134 : decode cX11_fill 134 = .ok (.putfield 164, 3) := by decide +kernel
theorem dX11_fill_137 : decode cX11_fill 137 = .ok (.aload_n 0, 1) := by decide +kernel
theorem dX11_fill_138 : decode cX11_fill 138 = .ok (.getfield 53, 3) := by decide +kernel
theorem dX11_fill_141 : decode cX11_fill 141 = .ok (.iload_n 3, 1) := by decide +kernel
theorem dX11_fill_142 : decode cX11_fill 142 = .ok (.invokevirtual 224, 3) := by decide +kernel
theorem dX11_fill_145 : decode cX11_fill 145 = .ok (.aload_n 0, 1) := by decide +kernel
theorem dX11_fill_146 : decode cX11_fill 146 = .ok (.iload 4, 2) := by decide +kernel
theorem dX11_fill_148 : decode cX11_fill 148 = .ok (.invokevirtual 78, 3) := by decide +kernel
theorem dX11_fill_151 : decode cX11_fill 151 = .ok (.ireturn, 1) := by decide +kernel
theorem dX11_leave_0 : decode cX11_leave 0 = .ok (.aload_n 0, 1) := by decide +kernel
theorem dX11_leave_1 : decode cX11_leave 1 = .ok (.iload_n 1, 1) := by decide +kernel
theorem dX11_leave_2 : decode cX11_leave 2 = .ok (.invokevirtual 167, 3) := by decide +kernel
theorem dX11_leave_5 : decode cX11_leave 5 = .ok (.astore_n 2, 1) := by decide +kernel
theorem dX11_leave_6 : decode cX11_leave 6 = .ok (.aload_n 2, 1) := by decide +kernel
theorem dX11_leave_7 : decode cX11_leave 7 = .ok (.ifnonnull 9, 3) := by decide +kernel
theorem dX11_leave_10 : decode cX11_leave 10 = .ok (.aload_n 0, 1) := by decide +kernel
theorem dX11_leave_11 : decode cX11_leave 11 = .ok (.iconst 1, 1) := by decide +kernel
theorem dX11_leave_12 : decode cX11_leave 12 = .ok (.invokevirtual 74, 3) := by decide +kernel
theorem dX11_leave_15 : decode cX11_leave 15 = .ok (.ireturn, 1) := by decide +kernel
theorem dX11_leave_16 : decode cX11_leave 16 = .ok (.aload_n 2, 1) := by decide +kernel
theorem dX11_leave_17 : decode cX11_leave 17 = .ok (.getfield 207, 3) := by decide +kernel
theorem dX11_leave_20 : decode cX11_leave 20 = .ok (.ifnonnull 10, 3) := by decide +kernel
theorem dX11_leave_23 : decode cX11_leave 23 = .ok (.aload_n 0, 1) := by decide +kernel
theorem dX11_leave_24 : decode cX11_leave 24 = .ok (.bipush 6, 2) := by decide +kernel
theorem dX11_leave_26 : decode cX11_leave 26 = .ok (.invokevirtual 74, 3) := by decide +kernel
theorem dX11_leave_29 : decode cX11_leave 29 = .ok (.ireturn, 1) := by decide +kernel
theorem dX11_leave_30 : decode cX11_leave 30 = .ok (.aload_n 2, 1) := by decide +kernel
theorem dX11_leave_31 : decode cX11_leave 31 = .ok (.getfield 207, 3) := by decide +kernel
theorem dX11_leave_34 : decode cX11_leave 34 = .ok (.getfield 227, 3) := by decide +kernel
theorem dX11_leave_37 : decode cX11_leave 37 = .ok (.istore_n 3, 1) := by decide +kernel
theorem dX11_leave_38 : decode cX11_leave 38 = .ok (.aload_n 0, 1) := by decide +kernel
theorem dX11_leave_39 : decode cX11_leave 39 = .ok (.aload_n 2, 1) := by decide +kernel
theorem dX11_leave_40 : decode cX11_leave 40 = .ok (.invokevirtual 171, 3) := by decide +kernel
theorem dX11_leave_43 : decode cX11_leave 43 = .ok (.aload_n 0, 1) := by decide +kernel
theorem dX11_leave_44 : decode cX11_leave 44 = .ok (.iload_n 3, 1) := by decide +kernel
theorem dX11_leave_45 : decode cX11_leave 45 = .ok (.invokevirtual 78, 3) := by decide +kernel
theorem dX11_leave_48 : decode cX11_leave 48 = .ok (.ireturn, 1) := by decide +kernel
theorem dX11_roomOf_0 : decode cX11_roomOf 0 = .ok (.aload_n 0, 1) := by decide +kernel
theorem dX11_roomOf_1 : decode cX11_roomOf 1 = .ok (.iload_n 1, 1) := by decide +kernel
theorem dX11_roomOf_2 : decode cX11_roomOf 2 = .ok (.invokevirtual 167, 3) := by decide +kernel
theorem dX11_roomOf_5 : decode cX11_roomOf 5 = .ok (.astore_n 3, 1) := by decide +kernel
theorem dX11_roomOf_6 : decode cX11_roomOf 6 = .ok (.aload_n 3, 1) := by decide +kernel
theorem dX11_roomOf_7 : decode cX11_roomOf 7 = .ok (.ifnonnull 5, 3) := by decide +kernel
theorem dX11_roomOf_10 : decode cX11_roomOf 10 = .ok (.iconst (-1), 1) := by decide +kernel
theorem dX11_roomOf_11 : decode cX11_roomOf 11 = .ok (.ireturn, 1) := by decide +kernel
theorem dX11_roomOf_12 : decode cX11_roomOf 12 = .ok (.iload_n 2, 1) := by decide +kernel
theorem dX11_roomOf_13 : decode cX11_roomOf 13 = .ok (.tableswitch 81 0 3 #[31, 36, 56, 76], 31) := by decide +kernel
theorem dX11_roomOf_44 : decode cX11_roomOf 44 = .ok (.aload_n 3, 1) := by decide +kernel
theorem dX11_roomOf_45 : decode cX11_roomOf 45 = .ok (.getfield 214, 3) := by decide +kernel
theorem dX11_roomOf_48 : decode cX11_roomOf 48 = .ok (.ireturn, 1) := by decide +kernel
theorem dX11_roomOf_49 : decode cX11_roomOf 49 = .ok (.aload_n 3, 1) := by decide +kernel
theorem dX11_roomOf_50 : decode cX11_roomOf 50 = .ok (.getfield 207, 3) := by decide +kernel
theorem dX11_roomOf_53 : decode cX11_roomOf 53 = .ok (.ifnonnull 8, 3) := by decide +kernel
theorem dX11_roomOf_56 : decode cX11_roomOf 56 = .ok (.bipush (-2), 2) := by decide +kernel
theorem dX11_roomOf_58 : decode cX11_roomOf 58 = .ok (.goto 10, 3) := by decide +kernel
theorem dX11_roomOf_61 : decode cX11_roomOf 61 = .ok (.aload_n 3, 1) := by decide +kernel
theorem dX11_roomOf_62 : decode cX11_roomOf 62 = .ok (.getfield 207, 3) := by decide +kernel
theorem dX11_roomOf_65 : decode cX11_roomOf 65 = .ok (.getfield 227, 3) := by decide +kernel
theorem dX11_roomOf_68 : decode cX11_roomOf 68 = .ok (.ireturn, 1) := by decide +kernel
theorem dX11_roomOf_69 : decode cX11_roomOf 69 = .ok (.aload_n 3, 1) := by decide +kernel
theorem dX11_roomOf_70 : decode cX11_roomOf 70 = .ok (.getfield 207, 3) := by decide +kernel
theorem dX11_roomOf_73 : decode cX11_roomOf 73 = .ok (.ifnonnull 8, 3) := by decide +kernel
theorem dX11_roomOf_76 : decode cX11_roomOf 76 = .ok (.bipush (-2), 2) := by decide +kernel
theorem dX11_roomOf_78 : decode cX11_roomOf 78 = .ok (.goto 10, 3) := by decide +kernel
theorem dX11_roomOf_81 : decode cX11_roomOf 81 = .ok (.aload_n 3, 1) := by decide +kernel
theorem dX11_roomOf_82 : decode cX11_roomOf 82 = .ok (.getfield 207, 3) := by decide +kernel
theorem dX11_roomOf_85 : decode cX11_roomOf 85 = .ok (.getfield 230, 3) := by decide +kernel
theorem dX11_roomOf_88 : decode cX11_roomOf 88 = .ok (.ireturn, 1) := by decide +kernel
theorem dX11_roomOf_89 : decode cX11_roomOf 89 = .ok (.aload_n 3, 1) := by decide +kernel
theorem dX11_roomOf_90 : decode cX11_roomOf 90 = .ok (.getfield 222, 3) := by decide +kernel
theorem dX11_roomOf_93 : decode cX11_roomOf 93 = .ok (.ireturn, 1) := by decide +kernel
theorem dX11_roomOf_94 : decode cX11_roomOf 94 = .ok (.iconst (-1), 1) := by decide +kernel
theorem dX11_roomOf_95 : decode cX11_roomOf 95 = .ok (.ireturn, 1) := by decide +kernel
theorem dX11_had_0 : decode cX11_had 0 = .ok (.aload_n 0, 1) := by decide +kernel
theorem dX11_had_1 : decode cX11_had 1 = .ok (.iload_n 1, 1) := by decide +kernel
theorem dX11_had_2 : decode cX11_had 2 = .ok (.invokevirtual 167, 3) := by decide +kernel
theorem dX11_had_5 : decode cX11_had 5 = .ok (.ifnull 15, 3) := by decide +kernel
theorem dX11_had_8 : decode cX11_had 8 = .ok (.iload_n 2, 1) := by decide +kernel
theorem dX11_had_9 : decode cX11_had 9 = .ok (.ifCond .lt 11, 3) := by decide +kernel
theorem dX11_had_12 : decode cX11_had 12 = .ok (.iload_n 2, 1) := by decide +kernel
theorem dX11_had_13 : decode cX11_had 13 = .ok (.aload_n 0, 1) := by decide +kernel
theorem dX11_had_14 : decode cX11_had 14 = .ok (.getfield 135, 3) := by decide +kernel
theorem dX11_had_17 : decode cX11_had 17 = .ok (.if_icmp .lt 5, 3) := by decide +kernel
theorem dX11_had_20 : decode cX11_had 20 = .ok (.iconst (-1), 1) := by decide +kernel
theorem dX11_had_21 : decode cX11_had 21 = .ok (.ireturn, 1) := by decide +kernel
theorem dX11_had_22 : decode cX11_had 22 = .ok (.iconst 0, 1) := by decide +kernel
theorem dX11_had_23 : decode cX11_had 23 = .ok (.istore_n 3, 1) := by decide +kernel
theorem dX11_had_24 : decode cX11_had 24 = .ok (.iload_n 3, 1) := by decide +kernel
theorem dX11_had_25 : decode cX11_had 25 = .ok (.aload_n 0, 1) := by decide +kernel
theorem dX11_had_26 : decode cX11_had 26 = .ok (.getfield 47, 3) := by decide +kernel
theorem dX11_had_29 : decode cX11_had 29 = .ok (.invokevirtual 138, 3) := by decide +kernel
theorem dX11_had_32 : decode cX11_had 32 = .ok (.if_icmp .ge 55, 3) := by decide +kernel
theorem dX11_had_35 : decode cX11_had 35 = .ok (.aload_n 0, 1) := by decide +kernel
theorem dX11_had_36 : decode cX11_had 36 = .ok (.getfield 47, 3) := by decide +kernel
theorem dX11_had_39 : decode cX11_had 39 = .ok (.iload_n 3, 1) := by decide +kernel
theorem dX11_had_40 : decode cX11_had 40 = .ok (.invokevirtual 190, 3) := by decide +kernel
theorem dX11_had_43 : decode cX11_had 43 = .ok (.checkcast 217, 3) := by decide +kernel
theorem dX11_had_46 : decode cX11_had 46 = .ok (.astore 4, 2) := by decide +kernel
theorem dX11_had_48 : decode cX11_had 48 = .ok (.aload 4, 2) := by decide +kernel
theorem dX11_had_50 : decode cX11_had 50 = .ok (.getfield 233, 3) := by decide +kernel
theorem dX11_had_53 : decode cX11_had 53 = .ok (.iload_n 1, 1) := by decide +kernel
theorem dX11_had_54 : decode cX11_had 54 = .ok (.if_icmp .ne 27, 3) := by decide +kernel
theorem dX11_had_57 : decode cX11_had 57 = .ok (.aload 4, 2) := by decide +kernel
theorem dX11_had_59 : decode cX11_had 59 = .ok (.getfield 230, 3) := by decide +kernel
theorem dX11_had_62 : decode cX11_had 62 = .ok (.iload_n 2, 1) := by decide +kernel
theorem dX11_had_63 : decode cX11_had 63 = .ok (.if_icmp .gt 18, 3) := by decide +kernel
theorem dX11_had_66 : decode cX11_had 66 = .ok (.iload_n 2, 1) := by decide +kernel
theorem dX11_had_67 : decode cX11_had 67 = .ok (.aload 4, 2) := by decide +kernel
theorem dX11_had_69 : decode cX11_had 69 = .ok (.getfield 234, 3) := by decide +kernel
theorem dX11_had_72 : decode cX11_had 72 = .ok (.if_icmp .ge 9, 3) := by decide +kernel
theorem dX11_had_75 : decode cX11_had 75 = .ok (.aload 4, 2) := by decide +kernel
theorem dX11_had_77 : decode cX11_had 77 = .ok (.getfield 227, 3) := by decide +kernel
theorem dX11_had_80 : decode cX11_had 80 = .ok (.ireturn, 1) := by decide +kernel
theorem dX11_had_81 : decode cX11_had 81 = .ok (.iinc 3 1, 3) := by decide +kernel
theorem dX11_had_84 : decode cX11_had 84 = .ok (.goto (-60), 3) := by decide +kernel
theorem dX11_had_87 : decode cX11_had 87 = .ok (.bipush (-2), 2) := by decide +kernel
theorem dX11_had_89 : decode cX11_had 89 = .ok (.ireturn, 1) := by decide +kernel
theorem dX11_land_0 : decode cX11_land 0 = .ok (.iload_n 1, 1) := by decide +kernel
theorem dX11_land_1 : decode cX11_land 1 = .ok (.ifCond .lt 14, 3) := by decide +kernel
theorem dX11_land_4 : decode cX11_land 4 = .ok (.iload_n 1, 1) := by decide +kernel
theorem dX11_land_5 : decode cX11_land 5 = .ok (.sipush 9999, 3) := by decide +kernel
theorem dX11_land_8 : decode cX11_land 8 = .ok (.if_icmp .gt 7, 3) := by decide +kernel
theorem dX11_land_11 : decode cX11_land 11 = .ok (.iconst 1, 1) := by decide +kernel
theorem dX11_land_12 : decode cX11_land 12 = .ok (.goto 4, 3) := by decide +kernel
theorem dX11_land_15 : decode cX11_land 15 = .ok (.iconst 0, 1) := by decide +kernel
theorem dX11_land_16 : decode cX11_land 16 = .ok (.istore 4, 2) := by decide +kernel
theorem dX11_land_18 : decode cX11_land 18 = .ok (.iload_n 2, 1) := by decide +kernel
theorem dX11_land_19 : decode cX11_land 19 = .ok (.iconst 1, 1) := by decide +kernel
theorem dX11_land_20 : decode cX11_land 20 = .ok (.if_icmp .lt 14, 3) := by decide +kernel
theorem dX11_land_23 : decode cX11_land 23 = .ok (.iload_n 2, 1) := by decide +kernel
theorem dX11_land_24 : decode cX11_land 24 = .ok (.sipush 400, 3) := by decide +kernel
theorem dX11_land_27 : decode cX11_land 27 = .ok (.if_icmp .gt 7, 3) := by decide +kernel
theorem dX11_land_30 : decode cX11_land 30 = .ok (.iconst 1, 1) := by decide +kernel
theorem dX11_land_31 : decode cX11_land 31 = .ok (.goto 4, 3) := by decide +kernel
theorem dX11_land_34 : decode cX11_land 34 = .ok (.iconst 0, 1) := by decide +kernel
theorem dX11_land_35 : decode cX11_land 35 = .ok (.istore 5, 2) := by decide +kernel
theorem dX11_land_37 : decode cX11_land 37 = .ok (.iload 4, 2) := by decide +kernel
theorem dX11_land_39 : decode cX11_land 39 = .ok (.ifCond .eq 22, 3) := by decide +kernel
theorem dX11_land_42 : decode cX11_land 42 = .ok (.iload 5, 2) := by decide +kernel
theorem dX11_land_44 : decode cX11_land 44 = .ok (.ifCond .eq 17, 3) := by decide +kernel
theorem dX11_land_47 : decode cX11_land 47 = .ok (.iload_n 3, 1) := by decide +kernel
theorem dX11_land_48 : decode cX11_land 48 = .ok (.aload_n 0, 1) := by decide +kernel
theorem dX11_land_49 : decode cX11_land 49 = .ok (.getfield 135, 3) := by decide +kernel
theorem dX11_land_52 : decode cX11_land 52 = .ok (.if_icmp .le 9, 3) := by decide +kernel
theorem dX11_land_55 : decode cX11_land 55 = .ok (.iload_n 3, 1) := by decide +kernel
theorem dX11_land_56 : decode cX11_land 56 = .ok (.ldc 237, 2) := by decide +kernel
theorem dX11_land_58 : decode cX11_land 58 = .ok (.if_icmp .le 9, 3) := by decide +kernel
theorem dX11_land_61 : decode cX11_land 61 = .ok (.aload_n 0, 1) := by decide +kernel
theorem dX11_land_62 : decode cX11_land 62 = .ok (.iconst 2, 1) := by decide +kernel
theorem dX11_land_63 : decode cX11_land 63 = .ok (.invokevirtual 74, 3) := by decide +kernel
theorem dX11_land_66 : decode cX11_land 66 = .ok (.ireturn, 1) := by decide +kernel
theorem dX11_land_67 : decode cX11_land 67 = .ok (.aload_n 0, 1) := by decide +kernel
theorem dX11_land_68 : decode cX11_land 68 = .ok (.getfield 57, 3) := by decide +kernel
theorem dX11_land_71 : decode cX11_land 71 = .ok (.invokevirtual 138, 3) := by decide +kernel
theorem dX11_land_74 : decode cX11_land 74 = .ok (.bipush 10, 2) := by decide +kernel
theorem dX11_land_76 : decode cX11_land 76 = .ok (.if_icmp .lt 9, 3) := by decide +kernel
theorem dX11_land_79 : decode cX11_land 79 = .ok (.aload_n 0, 1) := by decide +kernel
theorem dX11_land_80 : decode cX11_land 80 = .ok (.iconst 3, 1) := by decide +kernel
theorem dX11_land_81 : decode cX11_land 81 = .ok (.invokevirtual 74, 3) := by decide +kernel
theorem dX11_land_84 : decode cX11_land 84 = .ok (.ireturn, 1) := by decide +kernel
theorem dX11_land_85 : decode cX11_land 85 = .ok (.aload_n 0, 1) := by decide +kernel
theorem dX11_land_86 : decode cX11_land 86 = .ok (.getfield 57, 3) := by decide +kernel
theorem dX11_land_89 : decode cX11_land 89 = .ok (.new 238, 3) := by decide +kernel
theorem dX11_land_92 : decode cX11_land 92 = .ok (.dup, 1) := by decide +kernel
theorem dX11_land_93 : decode cX11_land 93 = .ok (.iload_n 1, 1) := by decide +kernel
theorem dX11_land_94 : decode cX11_land 94 = .ok (.iload_n 2, 1) := by decide +kernel
theorem dX11_land_95 : decode cX11_land 95 = .ok (.iload_n 3, 1) := by decide +kernel
theorem dX11_land_96 : decode cX11_land 96 = .ok (.invokespecial 240, 3) := by decide +kernel
theorem dX11_land_99 : decode cX11_land 99 = .ok (.invokevirtual 146, 3) := by decide +kernel
theorem dX11_land_102 : decode cX11_land 102 = .ok (.pop, 1) := by decide +kernel
theorem dX11_land_103 : decode cX11_land 103 = .ok (.aload_n 0, 1) := by decide +kernel
theorem dX11_land_104 : decode cX11_land 104 = .ok (.aload_n 0, 1) := by decide +kernel
theorem dX11_land_105 : decode cX11_land 105 = .ok (.getfield 57, 3) := by decide +kernel
theorem dX11_land_108 : decode cX11_land 108 = .ok (.invokevirtual 138, 3) := by decide +kernel
theorem dX11_land_111 : decode cX11_land 111 = .ok (.iconst 1, 1) := by decide +kernel
theorem dX11_land_112 : decode cX11_land 112 = .ok (.isub, 1) := by decide +kernel
theorem dX11_land_113 : decode cX11_land 113 = .ok (.invokevirtual 78, 3) := by decide +kernel
theorem dX11_land_116 : decode cX11_land 116 = .ok (.ireturn, 1) := by decide +kernel
theorem dX11_dole_0 : decode cX11_dole 0 = .ok (.iload_n 1, 1) := by decide +kernel
theorem dX11_dole_1 : decode cX11_dole 1 = .ok (.ifCond .lt 10, 3) := by decide +kernel
theorem dX11_dole_4 : decode cX11_dole 4 = .ok (.iload_n 1, 1) := by decide +kernel
theorem dX11_dole_5 : decode cX11_dole 5 = .ok (.sipush 999, 3) := by decide +kernel
theorem dX11_dole_8 : decode cX11_dole 8 = .ok (.if_icmp .le 11, 3) := by decide +kernel
theorem dX11_dole_11 : decode cX11_dole 11 = .ok (.aload_n 0, 1) := by decide +kernel
theorem dX11_dole_12 : decode cX11_dole 12 = .ok (.iconst 2, 1) := by decide +kernel
theorem dX11_dole_13 : decode cX11_dole 13 = .ok (.invokevirtual 74, 3) := by decide +kernel
theorem dX11_dole_16 : decode cX11_dole 16 = .ok (.pop, 1) := by decide +kernel
theorem dX11_dole_17 : decode cX11_dole 17 = .ok (.iconst 0, 1) := by decide +kernel
theorem dX11_dole_18 : decode cX11_dole 18 = .ok (.ireturn, 1) := by decide +kernel
theorem dX11_dole_19 : decode cX11_dole 19 = .ok (.aload_n 0, 1) := by decide +kernel
theorem dX11_dole_20 : decode cX11_dole 20 = .ok (.iload_n 1, 1) := by decide +kernel
theorem dX11_dole_21 : decode cX11_dole 21 = .ok (.putfield 67, 3) := by decide +kernel
theorem dX11_dole_24 : decode cX11_dole 24 = .ok (.aload_n 0, 1) := by decide +kernel
theorem dX11_dole_25 : decode cX11_dole 25 = .ok (.iconst 0, 1) := by decide +kernel
theorem dX11_dole_26 : decode cX11_dole 26 = .ok (.invokevirtual 78, 3) := by decide +kernel
theorem dX11_dole_29 : decode cX11_dole 29 = .ok (.pop, 1) := by decide +kernel
theorem dX11_dole_30 : decode cX11_dole 30 = .ok (.iconst 1, 1) := by decide +kernel
theorem dX11_dole_31 : decode cX11_dole 31 = .ok (.ireturn, 1) := by decide +kernel
theorem dX11_pass_0 : decode cX11_pass 0 = .ok (.iload_n 1, 1) := by decide +kernel
theorem dX11_pass_1 : decode cX11_pass 1 = .ok (.iconst 1, 1) := by decide +kernel
theorem dX11_pass_2 : decode cX11_pass 2 = .ok (.if_icmp .lt 21, 3) := by decide +kernel
theorem dX11_pass_5 : decode cX11_pass 5 = .ok (.iload_n 1, 1) := by decide +kernel
theorem dX11_pass_6 : decode cX11_pass 6 = .ok (.sipush 400, 3) := by decide +kernel
theorem dX11_pass_9 : decode cX11_pass 9 = .ok (.if_icmp .gt 14, 3) := by decide +kernel
theorem dX11_pass_12 : decode cX11_pass 12 = .ok (.iload_n 1, 1) := by decide +kernel
theorem dX11_pass_13 : decode cX11_pass 13 = .ok (.ldc 237, 2) := by decide +kernel
theorem dX11_pass_15 : decode cX11_pass 15 = .ok (.aload_n 0, 1) := by decide +kernel
theorem dX11_pass_16 : decode cX11_pass 16 = .ok (.getfield 135, 3) := by decide +kernel
theorem dX11_pass_19 : decode cX11_pass 19 = .ok (.isub, 1) := by decide +kernel
theorem dX11_pass_20 : decode cX11_pass 20 = .ok (.if_icmp .le 9, 3) := by decide +kernel
theorem dX11_pass_23 : decode cX11_pass 23 = .ok (.aload_n 0, 1) := by decide +kernel
theorem dX11_pass_24 : decode cX11_pass 24 = .ok (.iconst 2, 1) := by decide +kernel
theorem dX11_pass_25 : decode cX11_pass 25 = .ok (.invokevirtual 74, 3) := by decide +kernel
theorem dX11_pass_28 : decode cX11_pass 28 = .ok (.ireturn, 1) := by decide +kernel
theorem dX11_pass_29 : decode cX11_pass 29 = .ok (.iconst 0, 1) := by decide +kernel
theorem dX11_pass_30 : decode cX11_pass 30 = .ok (.istore_n 2, 1) := by decide +kernel
theorem dX11_pass_31 : decode cX11_pass 31 = .ok (.iload_n 2, 1) := by decide +kernel
theorem dX11_pass_32 : decode cX11_pass 32 = .ok (.iload_n 1, 1) := by decide +kernel
theorem dX11_pass_33 : decode cX11_pass 33 = .ok (.if_icmp .ge 37, 3) := by decide +kernel
theorem dX11_pass_36 : decode cX11_pass 36 = .ok (.aload_n 0, 1) := by decide +kernel
theorem dX11_pass_37 : decode cX11_pass 37 = .ok (.dup, 1) := by decide +kernel
theorem dX11_pass_38 : decode cX11_pass 38 = .ok (.getfield 135, 3) := by decide +kernel
theorem dX11_pass_41 : decode cX11_pass 41 = .ok (.iconst 1, 1) := by decide +kernel
theorem dX11_pass_42 : decode cX11_pass 42 = .ok (.iadd, 1) := by decide +kernel
theorem dX11_pass_43 : decode cX11_pass 43 = .ok (.putfield 135, 3) := by decide +kernel
theorem dX11_pass_46 : decode cX11_pass 46 = .ok (.aload_n 0, 1) := by decide +kernel
theorem dX11_pass_47 : decode cX11_pass 47 = .ok (.invokevirtual 241, 3) := by decide +kernel
theorem dX11_pass_50 : decode cX11_pass 50 = .ok (.aload_n 0, 1) := by decide +kernel
theorem dX11_pass_51 : decode cX11_pass 51 = .ok (.getfield 135, 3) := by decide +kernel
theorem dX11_pass_54 : decode cX11_pass 54 = .ok (.bipush 7, 2) := by decide +kernel
theorem dX11_pass_56 : decode cX11_pass 56 = .ok (.irem, 1) := by decide +kernel
theorem dX11_pass_57 : decode cX11_pass 57 = .ok (.ifCond .ne 7, 3) := by decide +kernel
theorem dX11_pass_60 : decode cX11_pass 60 = .ok (.aload_n 0, 1) := by decide +kernel
theorem dX11_pass_61 : decode cX11_pass 61 = .ok (.invokevirtual 244, 3) := by decide +kernel
theorem dX11_pass_64 : decode cX11_pass 64 = .ok (.iinc 2 1, 3) := by decide +kernel
theorem dX11_pass_67 : decode cX11_pass 67 = .ok (.goto (-36), 3) := by decide +kernel
theorem dX11_pass_70 : decode cX11_pass 70 = .ok (.aload_n 0, 1) := by decide +kernel
theorem dX11_pass_71 : decode cX11_pass 71 = .ok (.aload_n 0, 1) := by decide +kernel
theorem dX11_pass_72 : decode cX11_pass 72 = .ok (.getfield 135, 3) := by decide +kernel
theorem dX11_pass_75 : decode cX11_pass 75 = .ok (.invokevirtual 78, 3) := by decide +kernel
theorem dX11_pass_78 : decode cX11_pass 78 = .ok (.ireturn, 1) := by decide +kernel
theorem dX11_owed_0 : decode cX11_owed 0 = .ok (.aload_n 0, 1) := by decide +kernel
theorem dX11_owed_1 : decode cX11_owed 1 = .ok (.iload_n 1, 1) := by decide +kernel
theorem dX11_owed_2 : decode cX11_owed 2 = .ok (.invokevirtual 150, 3) := by decide +kernel
theorem dX11_owed_5 : decode cX11_owed 5 = .ok (.astore_n 2, 1) := by decide +kernel
theorem dX11_owed_6 : decode cX11_owed 6 = .ok (.aload_n 2, 1) := by decide +kernel
theorem dX11_owed_7 : decode cX11_owed 7 = .ok (.ifnonnull 7, 3) := by decide +kernel
theorem dX11_owed_10 : decode cX11_owed 10 = .ok (.iconst (-1), 1) := by decide +kernel
theorem dX11_owed_11 : decode cX11_owed 11 = .ok (.goto 7, 3) := by decide +kernel
theorem dX11_owed_14 : decode cX11_owed 14 = .ok (.aload_n 2, 1) := by decide +kernel
theorem dX11_owed_15 : decode cX11_owed 15 = .ok (.getfield 247, 3) := by decide +kernel
theorem dX11_owed_18 : decode cX11_owed 18 = .ok (.ireturn, 1) := by decide +kernel
theorem dX11_got_0 : decode cX11_got 0 = .ok (.aload_n 0, 1) := by decide +kernel
theorem dX11_got_1 : decode cX11_got 1 = .ok (.iload_n 1, 1) := by decide +kernel
theorem dX11_got_2 : decode cX11_got 2 = .ok (.invokevirtual 150, 3) := by decide +kernel
theorem dX11_got_5 : decode cX11_got 5 = .ok (.astore_n 2, 1) := by decide +kernel
theorem dX11_got_6 : decode cX11_got 6 = .ok (.aload_n 2, 1) := by decide +kernel
theorem dX11_got_7 : decode cX11_got 7 = .ok (.ifnonnull 7, 3) := by decide +kernel
theorem dX11_got_10 : decode cX11_got 10 = .ok (.iconst (-1), 1) := by decide +kernel
theorem dX11_got_11 : decode cX11_got 11 = .ok (.goto 7, 3) := by decide +kernel
theorem dX11_got_14 : decode cX11_got 14 = .ok (.aload_n 2, 1) := by decide +kernel
theorem dX11_got_15 : decode cX11_got 15 = .ok (.getfield 250, 3) := by decide +kernel
theorem dX11_got_18 : decode cX11_got 18 = .ok (.ireturn, 1) := by decide +kernel
theorem dX11_count_0 : decode cX11_count 0 = .ok (.iload_n 1, 1) := by decide +kernel
theorem dX11_count_1 : decode cX11_count 1 = .ok (.tableswitch 168 0 11 #[63, 68, 73, 81, 89, 94, 102, 124, 129, 137, 152, 160], 63) := by decide +kernel
theorem dX11_count_64 : decode cX11_count 64 = .ok (.aload_n 0, 1) := by decide +kernel
theorem dX11_count_65 : decode cX11_count 65 = .ok (.getfield 71, 3) := by decide +kernel
theorem dX11_count_68 : decode cX11_count 68 = .ok (.ireturn, 1) := by decide +kernel
theorem dX11_count_69 : decode cX11_count 69 = .ok (.aload_n 0, 1) := by decide +kernel
theorem dX11_count_70 : decode cX11_count 70 = .ok (.getfield 107, 3) := by decide +kernel
theorem dX11_count_73 : decode cX11_count 73 = .ok (.ireturn, 1) := by decide +kernel
theorem dX11_count_74 : decode cX11_count 74 = .ok (.aload_n 0, 1) := by decide +kernel
theorem dX11_count_75 : decode cX11_count 75 = .ok (.getfield 41, 3) := by decide +kernel
theorem dX11_count_78 : decode cX11_count 78 = .ok (.invokevirtual 138, 3) := by decide +kernel
theorem dX11_count_81 : decode cX11_count 81 = .ok (.ireturn, 1) := by decide +kernel
theorem dX11_count_82 : decode cX11_count 82 = .ok (.aload_n 0, 1) := by decide +kernel
theorem dX11_count_83 : decode cX11_count 83 = .ok (.getfield 44, 3) := by decide +kernel
theorem dX11_count_86 : decode cX11_count 86 = .ok (.invokevirtual 138, 3) := by decide +kernel
theorem dX11_count_89 : decode cX11_count 89 = .ok (.ireturn, 1) := by decide +kernel
theorem dX11_count_90 : decode cX11_count 90 = .ok (.aload_n 0, 1) := by decide +kernel
theorem dX11_count_91 : decode cX11_count 91 = .ok (.invokevirtual 253, 3) := by decide +kernel
theorem dX11_count_94 : decode cX11_count 94 = .ok (.ireturn, 1) := by decide +kernel
theorem dX11_count_95 : decode cX11_count 95 = .ok (.aload_n 0, 1) := by decide +kernel
theorem dX11_count_96 : decode cX11_count 96 = .ok (.getfield 53, 3) := by decide +kernel
theorem dX11_count_99 : decode cX11_count 99 = .ok (.getfield 201, 3) := by decide +kernel
theorem dX11_count_102 : decode cX11_count 102 = .ok (.ireturn, 1) := by decide +kernel
theorem dX11_count_103 : decode cX11_count 103 = .ok (.aload_n 0, 1) := by decide +kernel
theorem dX11_count_104 : decode cX11_count 104 = .ok (.getfield 53, 3) := by decide +kernel
theorem dX11_count_107 : decode cX11_count 107 = .ok (.getfield 201, 3) := by decide +kernel
theorem dX11_count_110 : decode cX11_count 110 = .ok (.ifCond .ne 7, 3) := by decide +kernel
theorem dX11_count_113 : decode cX11_count 113 = .ok (.iconst (-1), 1) := by decide +kernel
theorem dX11_count_114 : decode cX11_count 114 = .ok (.goto 10, 3) := by decide +kernel
theorem dX11_count_117 : decode cX11_count 117 = .ok (.aload_n 0, 1) := by decide +kernel
theorem dX11_count_118 : decode cX11_count 118 = .ok (.getfield 53, 3) := by decide +kernel
theorem dX11_count_121 : decode cX11_count 121 = .ok (.getfield 256, 3) := by decide +kernel
theorem dX11_count_124 : decode cX11_count 124 = .ok (.ireturn, 1) := by decide +kernel
theorem dX11_count_125 : decode cX11_count 125 = .ok (.aload_n 0, 1) := by decide +kernel
theorem dX11_count_126 : decode cX11_count 126 = .ok (.getfield 135, 3) := by decide +kernel
theorem dX11_count_129 : decode cX11_count 129 = .ok (.ireturn, 1) := by decide +kernel
theorem dX11_count_130 : decode cX11_count 130 = .ok (.aload_n 0, 1) := by decide +kernel
theorem dX11_count_131 : decode cX11_count 131 = .ok (.getfield 63, 3) := by decide +kernel
theorem dX11_count_134 : decode cX11_count 134 = .ok (.getfield 259, 3) := by decide +kernel
theorem dX11_count_137 : decode cX11_count 137 = .ok (.ireturn, 1) := by decide +kernel
theorem dX11_count_138 : decode cX11_count 138 = .ok (.aload_n 0, 1) := by decide +kernel
theorem dX11_count_139 : decode cX11_count 139 = .ok (.getfield 63, 3) := by decide +kernel
theorem dX11_count_142 : decode cX11_count 142 = .ok (.getfield 262, 3) := by decide +kernel
theorem dX11_count_145 : decode cX11_count 145 = .ok (.ldc2_w 266, 3) := by decide +kernel
theorem dX11_count_148 : decode cX11_count 148 = .ok (.invokestatic 268, 3) := by decide +kernel
theorem dX11_count_151 : decode cX11_count 151 = .ok (.l2i, 1) := by decide +kernel
theorem dX11_count_152 : decode cX11_count 152 = .ok (.ireturn, 1) := by decide +kernel
theorem dX11_count_153 : decode cX11_count 153 = .ok (.aload_n 0, 1) := by decide +kernel
theorem dX11_count_154 : decode cX11_count 154 = .ok (.getfield 57, 3) := by decide +kernel
theorem dX11_count_157 : decode cX11_count 157 = .ok (.invokevirtual 138, 3) := by decide +kernel
theorem dX11_count_160 : decode cX11_count 160 = .ok (.ireturn, 1) := by decide +kernel
theorem dX11_count_161 : decode cX11_count 161 = .ok (.aload_n 0, 1) := by decide +kernel
theorem dX11_count_162 : decode cX11_count 162 = .ok (.getfield 12, 3) := by decide +kernel
theorem dX11_count_165 : decode cX11_count 165 = .ok (.getfield 81, 3) := by decide +kernel
theorem dX11_count_168 : decode cX11_count 168 = .ok (.ireturn, 1) := by decide +kernel
theorem dX11_count_169 : decode cX11_count 169 = .ok (.iconst (-1), 1) := by decide +kernel
theorem dX11_count_170 : decode cX11_count 170 = .ok (.ireturn, 1) := by decide +kernel
theorem dX11_trouble_0 : decode cX11_trouble 0 = .ok (.aload_n 0, 1) := by decide +kernel
theorem dX11_trouble_1 : decode cX11_trouble 1 = .ok (.getfield 114, 3) := by decide +kernel
theorem dX11_trouble_4 : decode cX11_trouble 4 = .ok (.ireturn, 1) := by decide +kernel
theorem dX11_refuse_0 : decode cX11_refuse 0 = .ok (.aload_n 0, 1) := by decide +kernel
theorem dX11_refuse_1 : decode cX11_refuse 1 = .ok (.iload_n 1, 1) := by decide +kernel
theorem dX11_refuse_2 : decode cX11_refuse 2 = .ok (.putfield 114, 3) := by decide +kernel
theorem dX11_refuse_5 : decode cX11_refuse 5 = .ok (.iconst (-1), 1) := by decide +kernel
theorem dX11_refuse_6 : decode cX11_refuse 6 = .ok (.ireturn, 1) := by decide +kernel
theorem dX11_accept_0 : decode cX11_accept 0 = .ok (.aload_n 0, 1) := by decide +kernel
theorem dX11_accept_1 : decode cX11_accept 1 = .ok (.iconst 0, 1) := by decide +kernel
theorem dX11_accept_2 : decode cX11_accept 2 = .ok (.putfield 114, 3) := by decide +kernel
theorem dX11_accept_5 : decode cX11_accept 5 = .ok (.iload_n 1, 1) := by decide +kernel
theorem dX11_accept_6 : decode cX11_accept 6 = .ok (.ireturn, 1) := by decide +kernel
theorem dX11_isWill_0 : decode cX11_isWill 0 = .ok (.iload_n 1, 1) := by decide +kernel
theorem dX11_isWill_1 : decode cX11_isWill 1 = .ok (.ifCond .lt 15, 3) := by decide +kernel
theorem dX11_isWill_4 : decode cX11_isWill 4 = .ok (.iload_n 1, 1) := by decide +kernel
theorem dX11_isWill_5 : decode cX11_isWill 5 = .ok (.aload_n 0, 1) := by decide +kernel
theorem dX11_isWill_6 : decode cX11_isWill 6 = .ok (.getfield 71, 3) := by decide +kernel
theorem dX11_isWill_9 : decode cX11_isWill 9 = .ok (.if_icmp .ge 7, 3) := by decide +kernel
theorem dX11_isWill_12 : decode cX11_isWill 12 = .ok (.iconst 1, 1) := by decide +kernel
theorem dX11_isWill_13 : decode cX11_isWill 13 = .ok (.goto 4, 3) := by decide +kernel
theorem dX11_isWill_16 : decode cX11_isWill 16 = .ok (.iconst 0, 1) := by decide +kernel
theorem dX11_isWill_17 : decode cX11_isWill 17 = .ok (.ireturn, 1) := by decide +kernel
theorem dX11_isDay_0 : decode cX11_isDay 0 = .ok (.iload_n 0, 1) := by decide +kernel
theorem dX11_isDay_1 : decode cX11_isDay 1 = .ok (.ifCond .lt 13, 3) := by decide +kernel
theorem dX11_isDay_4 : decode cX11_isDay 4 = .ok (.iload_n 0, 1) := by decide +kernel
theorem dX11_isDay_5 : decode cX11_isDay 5 = .ok (.ldc 237, 2) := by decide +kernel
theorem dX11_isDay_7 : decode cX11_isDay 7 = .ok (.if_icmp .gt 7, 3) := by decide +kernel
theorem dX11_isDay_10 : decode cX11_isDay 10 = .ok (.iconst 1, 1) := by decide +kernel
theorem dX11_isDay_11 : decode cX11_isDay 11 = .ok (.goto 4, 3) := by decide +kernel
theorem dX11_isDay_14 : decode cX11_isDay 14 = .ok (.iconst 0, 1) := by decide +kernel
theorem dX11_isDay_15 : decode cX11_isDay 15 = .ok (.ireturn, 1) := by decide +kernel
theorem dX11_personAt_0 : decode cX11_personAt 0 = .ok (.iload_n 1, 1) := by decide +kernel
theorem dX11_personAt_1 : decode cX11_personAt 1 = .ok (.ifCond .lt 28, 3) := by decide +kernel
theorem dX11_personAt_4 : decode cX11_personAt 4 = .ok (.iload_n 1, 1) := by decide +kernel
theorem dX11_personAt_5 : decode cX11_personAt 5 = .ok (.aload_n 0, 1) := by decide +kernel
theorem dX11_personAt_6 : decode cX11_personAt 6 = .ok (.getfield 41, 3) := by decide +kernel
theorem dX11_personAt_9 : decode cX11_personAt 9 = .ok (.invokevirtual 138, 3) := by decide +kernel
theorem dX11_personAt_12 : decode cX11_personAt 12 = .ok (.if_icmp .ge 17, 3) := by decide +kernel
theorem dX11_personAt_15 : decode cX11_personAt 15 = .ok (.aload_n 0, 1) := by decide +kernel
theorem dX11_personAt_16 : decode cX11_personAt 16 = .ok (.getfield 41, 3) := by decide +kernel
theorem dX11_personAt_19 : decode cX11_personAt 19 = .ok (.iload_n 1, 1) := by decide +kernel
theorem dX11_personAt_20 : decode cX11_personAt 20 = .ok (.invokevirtual 190, 3) := by decide +kernel
theorem dX11_personAt_23 : decode cX11_personAt 23 = .ok (.checkcast 141, 3) := by decide +kernel
theorem dX11_personAt_26 : decode cX11_personAt 26 = .ok (.goto 4, 3) := by decide +kernel
theorem dX11_personAt_29 : decode cX11_personAt 29 = .ok (.aconst_null, 1) := by decide +kernel
theorem dX11_personAt_30 : decode cX11_personAt 30 = .ok (.areturn, 1) := by decide +kernel
theorem dX11_roomAt_0 : decode cX11_roomAt 0 = .ok (.iload_n 1, 1) := by decide +kernel
theorem dX11_roomAt_1 : decode cX11_roomAt 1 = .ok (.ifCond .lt 28, 3) := by decide +kernel
theorem dX11_roomAt_4 : decode cX11_roomAt 4 = .ok (.iload_n 1, 1) := by decide +kernel
theorem dX11_roomAt_5 : decode cX11_roomAt 5 = .ok (.aload_n 0, 1) := by decide +kernel
theorem dX11_roomAt_6 : decode cX11_roomAt 6 = .ok (.getfield 44, 3) := by decide +kernel
theorem dX11_roomAt_9 : decode cX11_roomAt 9 = .ok (.invokevirtual 138, 3) := by decide +kernel
theorem dX11_roomAt_12 : decode cX11_roomAt 12 = .ok (.if_icmp .ge 17, 3) := by decide +kernel
theorem dX11_roomAt_15 : decode cX11_roomAt 15 = .ok (.aload_n 0, 1) := by decide +kernel
theorem dX11_roomAt_16 : decode cX11_roomAt 16 = .ok (.getfield 44, 3) := by decide +kernel
theorem dX11_roomAt_19 : decode cX11_roomAt 19 = .ok (.iload_n 1, 1) := by decide +kernel
theorem dX11_roomAt_20 : decode cX11_roomAt 20 = .ok (.invokevirtual 190, 3) := by decide +kernel
theorem dX11_roomAt_23 : decode cX11_roomAt 23 = .ok (.checkcast 197, 3) := by decide +kernel
theorem dX11_roomAt_26 : decode cX11_roomAt 26 = .ok (.goto 4, 3) := by decide +kernel
theorem dX11_roomAt_29 : decode cX11_roomAt 29 = .ok (.aconst_null, 1) := by decide +kernel
theorem dX11_roomAt_30 : decode cX11_roomAt 30 = .ok (.areturn, 1) := by decide +kernel
theorem dX11_keepChanges_0 : decode cX11_keepChanges 0 = .ok (.iconst 0, 1) := by decide +kernel
theorem dX11_keepChanges_1 : decode cX11_keepChanges 1 = .ok (.istore_n 3, 1) := by decide +kernel
theorem dX11_keepChanges_2 : decode cX11_keepChanges 2 = .ok (.iload_n 3, 1) := by decide +kernel
theorem dX11_keepChanges_3 : decode cX11_keepChanges 3 = .ok (.aload_n 0, 1) := by decide +kernel
theorem dX11_keepChanges_4 : decode cX11_keepChanges 4 = .ok (.getfield 23, 3) := by decide +kernel
theorem dX11_keepChanges_7 : decode cX11_keepChanges 7 = .ok (.getfield 274, 3) := by decide +kernel
theorem dX11_keepChanges_10 : decode cX11_keepChanges 10 = .ok (.if_icmp .ge 54, 3) := by decide +kernel
theorem dX11_keepChanges_13 : decode cX11_keepChanges 13 = .ok (.aload_n 0, 1) := by decide +kernel
theorem dX11_keepChanges_14 : decode cX11_keepChanges 14 = .ok (.getfield 30, 3) := by decide +kernel
theorem dX11_keepChanges_17 : decode cX11_keepChanges 17 = .ok (.new 126, 3) := by decide +kernel
theorem dX11_keepChanges_20 : decode cX11_keepChanges 20 = .ok (.dup, 1) := by decide +kernel
theorem dX11_keepChanges_21 : decode cX11_keepChanges 21 = .ok (.aload_n 0, 1) := by decide +kernel
theorem dX11_keepChanges_22 : decode cX11_keepChanges 22 = .ok (.getfield 107, 3) := by decide +kernel
theorem dX11_keepChanges_25 : decode cX11_keepChanges 25 = .ok (.iload_n 1, 1) := by decide +kernel
end
section
theorem dX11_keepChanges_26 : decode cX11_keepChanges 26 = .ok (.iload_n 2, 1) := by decide +kernel
theorem dX11_keepChanges_27 : decode cX11_keepChanges 27 = .ok (.aload_n 0, 1) := by decide +kernel
theorem dX11_keepChanges_28 : decode cX11_keepChanges 28 = .ok (.getfield 23, 3) := by decide +kernel
theorem dX11_keepChanges_31 : decode cX11_keepChanges 31 = .ok (.iload_n 3, 1) := by decide +kernel
theorem dX11_keepChanges_32 : decode cX11_keepChanges 32 = .ok (.invokevirtual 276, 3) := by decide +kernel
theorem dX11_keepChanges_35 : decode cX11_keepChanges 35 = .ok (.aload_n 0, 1) := by decide +kernel
theorem dX11_keepChanges_36 : decode cX11_keepChanges 36 = .ok (.getfield 23, 3) := by decide +kernel
theorem dX11_keepChanges_39 : decode cX11_keepChanges 39 = .ok (.iload_n 3, 1) := by decide +kernel
theorem dX11_keepChanges_40 : decode cX11_keepChanges 40 = .ok (.invokevirtual 279, 3) := by decide +kernel
theorem dX11_keepChanges_43 : decode cX11_keepChanges 43 = .ok (.aload_n 0, 1) := by decide +kernel
theorem dX11_keepChanges_44 : decode cX11_keepChanges 44 = .ok (.getfield 23, 3) := by decide +kernel
theorem dX11_keepChanges_47 : decode cX11_keepChanges 47 = .ok (.iload_n 3, 1) := by decide +kernel
theorem dX11_keepChanges_48 : decode cX11_keepChanges 48 = .ok (.invokevirtual 282, 3) := by decide +kernel
theorem dX11_keepChanges_51 : decode cX11_keepChanges 51 = .ok (.invokespecial 286, 3) := by decide +kernel
theorem dX11_keepChanges_54 : decode cX11_keepChanges 54 = .ok (.invokevirtual 146, 3) := by decide +kernel
theorem dX11_keepChanges_57 : decode cX11_keepChanges 57 = .ok (.pop, 1) := by decide +kernel
theorem dX11_keepChanges_58 : decode cX11_keepChanges 58 = .ok (.iinc 3 1, 3) := by decide +kernel
theorem dX11_keepChanges_61 : decode cX11_keepChanges 61 = .ok (.goto (-59), 3) := by decide +kernel
theorem dX11_keepChanges_64 : decode cX11_keepChanges 64 = .ok (.return_, 1) := by decide +kernel
theorem dX11_choose_0 : decode cX11_choose 0 = .ok (.aload_n 0, 1) := by decide +kernel
theorem dX11_choose_1 : decode cX11_choose 1 = .ok (.getfield 37, 3) := by decide +kernel
theorem dX11_choose_4 : decode cX11_choose 4 = .ok (.aload_n 0, 1) := by decide +kernel
theorem dX11_choose_5 : decode cX11_choose 5 = .ok (.getfield 30, 3) := by decide +kernel
theorem dX11_choose_8 : decode cX11_choose 8 = .ok (.iload_n 1, 1) := by decide +kernel
theorem dX11_choose_9 : decode cX11_choose 9 = .ok (.iload_n 2, 1) := by decide +kernel
theorem dX11_choose_10 : decode cX11_choose 10 = .ok (.invokevirtual 117, 3) := by decide +kernel
theorem dX11_choose_13 : decode cX11_choose 13 = .ok (.bipush (-2), 2) := by decide +kernel
theorem dX11_choose_15 : decode cX11_choose 15 = .ok (.istore_n 3, 1) := by decide +kernel
theorem dX11_choose_16 : decode cX11_choose 16 = .ok (.iconst (-1), 1) := by decide +kernel
theorem dX11_choose_17 : decode cX11_choose 17 = .ok (.istore 4, 2) := by decide +kernel
theorem dX11_choose_19 : decode cX11_choose 19 = .ok (.iconst 0, 1) := by decide +kernel
theorem dX11_choose_20 : decode cX11_choose 20 = .ok (.istore 5, 2) := by decide +kernel
theorem dX11_choose_22 : decode cX11_choose 22 = .ok (.iload 5, 2) := by decide +kernel
theorem dX11_choose_24 : decode cX11_choose 24 = .ok (.aload_n 0, 1) := by decide +kernel
theorem dX11_choose_25 : decode cX11_choose 25 = .ok (.getfield 41, 3) := by decide +kernel
theorem dX11_choose_28 : decode cX11_choose 28 = .ok (.invokevirtual 138, 3) := by decide +kernel
theorem dX11_choose_31 : decode cX11_choose 31 = .ok (.if_icmp .ge 71, 3) := by decide +kernel
theorem dX11_choose_34 : decode cX11_choose 34 = .ok (.aload_n 0, 1) := by decide +kernel
theorem dX11_choose_35 : decode cX11_choose 35 = .ok (.getfield 41, 3) := by decide +kernel
theorem dX11_choose_38 : decode cX11_choose 38 = .ok (.iload 5, 2) := by decide +kernel
theorem dX11_choose_40 : decode cX11_choose 40 = .ok (.invokevirtual 190, 3) := by decide +kernel
theorem dX11_choose_43 : decode cX11_choose 43 = .ok (.checkcast 141, 3) := by decide +kernel
theorem dX11_choose_46 : decode cX11_choose 46 = .ok (.astore 6, 2) := by decide +kernel
theorem dX11_choose_48 : decode cX11_choose 48 = .ok (.aload 6, 2) := by decide +kernel
theorem dX11_choose_50 : decode cX11_choose 50 = .ok (.getfield 164, 3) := by decide +kernel
theorem dX11_choose_53 : decode cX11_choose 53 = .ok (.iconst (-1), 1) := by decide +kernel
theorem dX11_choose_54 : decode cX11_choose 54 = .ok (.if_icmp .ne 42, 3) := by decide +kernel
theorem dX11_choose_57 : decode cX11_choose 57 = .ok (.aload_n 0, 1) := by decide +kernel
theorem dX11_choose_58 : decode cX11_choose 58 = .ok (.getfield 37, 3) := by decide +kernel
theorem dX11_choose_61 : decode cX11_choose 61 = .ok (.aload 6, 2) := by decide +kernel
theorem dX11_choose_63 : decode cX11_choose 63 = .ok (.iload_n 2, 1) := by decide +kernel
theorem dX11_choose_64 : decode cX11_choose 64 = .ok (.invokevirtual 179, 3) := by decide +kernel
theorem dX11_choose_67 : decode cX11_choose 67 = .ok (.ifCond .eq 29, 3) := by decide +kernel
theorem dX11_choose_70 : decode cX11_choose 70 = .ok (.aload_n 0, 1) := by decide +kernel
theorem dX11_choose_71 : decode cX11_choose 71 = .ok (.getfield 37, 3) := by decide +kernel
theorem dX11_choose_74 : decode cX11_choose 74 = .ok (.aload 6, 2) := by decide +kernel
theorem dX11_choose_76 : decode cX11_choose 76 = .ok (.iload_n 2, 1) := by decide +kernel
theorem dX11_choose_77 : decode cX11_choose 77 = .ok (.invokevirtual 187, 3) := by decide +kernel
theorem dX11_choose_80 : decode cX11_choose 80 = .ok (.istore 7, 2) := by decide +kernel
theorem dX11_choose_82 : decode cX11_choose 82 = .ok (.iload 7, 2) := by decide +kernel
theorem dX11_choose_84 : decode cX11_choose 84 = .ok (.iload 4, 2) := by decide +kernel
theorem dX11_choose_86 : decode cX11_choose 86 = .ok (.if_icmp .le 10, 3) := by decide +kernel
theorem dX11_choose_89 : decode cX11_choose 89 = .ok (.iload 7, 2) := by decide +kernel
theorem dX11_choose_91 : decode cX11_choose 91 = .ok (.istore 4, 2) := by decide +kernel
theorem dX11_choose_93 : decode cX11_choose 93 = .ok (.iload 5, 2) := by decide +kernel
theorem dX11_choose_95 : decode cX11_choose 95 = .ok (.istore_n 3, 1) := by decide +kernel
theorem dX11_choose_96 : decode cX11_choose 96 = .ok (.iinc 5 1, 3) := by decide +kernel
theorem dX11_choose_99 : decode cX11_choose 99 = .ok (.goto (-77), 3) := by decide +kernel
theorem dX11_choose_102 : decode cX11_choose 102 = .ok (.iload_n 3, 1) := by decide +kernel
theorem dX11_choose_103 : decode cX11_choose 103 = .ok (.ireturn, 1) := by decide +kernel
theorem dX11_empty_0 : decode cX11_empty 0 = .ok (.aload_n 1, 1) := by decide +kernel
theorem dX11_empty_1 : decode cX11_empty 1 = .ok (.ifnull 10, 3) := by decide +kernel
theorem dX11_empty_4 : decode cX11_empty 4 = .ok (.aload_n 1, 1) := by decide +kernel
theorem dX11_empty_5 : decode cX11_empty 5 = .ok (.getfield 207, 3) := by decide +kernel
theorem dX11_empty_8 : decode cX11_empty 8 = .ok (.ifnonnull 4, 3) := by decide +kernel
theorem dX11_empty_11 : decode cX11_empty 11 = .ok (.return_, 1) := by decide +kernel
theorem dX11_empty_12 : decode cX11_empty 12 = .ok (.aload_n 0, 1) := by decide +kernel
theorem dX11_empty_13 : decode cX11_empty 13 = .ok (.aload_n 1, 1) := by decide +kernel
theorem dX11_empty_14 : decode cX11_empty 14 = .ok (.getfield 207, 3) := by decide +kernel
theorem dX11_empty_17 : decode cX11_empty 17 = .ok (.getfield 227, 3) := by decide +kernel
theorem dX11_empty_20 : decode cX11_empty 20 = .ok (.invokevirtual 150, 3) := by decide +kernel
theorem dX11_empty_23 : decode cX11_empty 23 = .ok (.astore_n 2, 1) := by decide +kernel
theorem dX11_empty_24 : decode cX11_empty 24 = .ok (.aload_n 2, 1) := by decide +kernel
theorem dX11_empty_25 : decode cX11_empty 25 = .ok (.ifnull 13, 3) := by decide +kernel
theorem dX11_empty_28 : decode cX11_empty 28 = .ok (.aload_n 2, 1) := by decide +kernel
theorem dX11_empty_29 : decode cX11_empty 29 = .ok (.iconst (-1), 1) := by decide +kernel
theorem dX11_empty_30 : decode cX11_empty 30 = .ok (.putfield 164, 3) := by decide +kernel
theorem dX11_empty_33 : decode cX11_empty 33 = .ok (.aload_n 2, 1) := by decide +kernel
theorem dX11_empty_34 : decode cX11_empty 34 = .ok (.iconst 0, 1) := by decide +kernel
theorem dX11_empty_35 : decode cX11_empty 35 = .ok (.putfield 247, 3) := by decide +kernel
theorem dX11_empty_38 : decode cX11_empty 38 = .ok (.aload_n 1, 1) := by decide +kernel
theorem dX11_empty_39 : decode cX11_empty 39 = .ok (.getfield 207, 3) := by decide +kernel
theorem dX11_empty_42 : decode cX11_empty 42 = .ok (.aload_n 0, 1) := by decide +kernel
theorem dX11_empty_43 : decode cX11_empty 43 = .ok (.getfield 135, 3) := by decide +kernel
theorem dX11_empty_46 : decode cX11_empty 46 = .ok (.putfield 234, 3) := by decide +kernel
theorem dX11_empty_49 : decode cX11_empty 49 = .ok (.aload_n 1, 1) := by decide +kernel
theorem dX11_empty_50 : decode cX11_empty 50 = .ok (.aconst_null, 1) := by decide +kernel
theorem dX11_empty_51 : decode cX11_empty 51 = .ok (.putfield 207, 3) := by decide +kernel
theorem dX11_empty_54 : decode cX11_empty 54 = .ok (.return_, 1) := by decide +kernel
theorem dX11_emptyRooms_0 : decode cX11_emptyRooms 0 = .ok (.iconst 0, 1) := by decide +kernel
theorem dX11_emptyRooms_1 : decode cX11_emptyRooms 1 = .ok (.istore_n 1, 1) := by decide +kernel
theorem dX11_emptyRooms_2 : decode cX11_emptyRooms 2 = .ok (.iconst 0, 1) := by decide +kernel
theorem dX11_emptyRooms_3 : decode cX11_emptyRooms 3 = .ok (.istore_n 2, 1) := by decide +kernel
theorem dX11_emptyRooms_4 : decode cX11_emptyRooms 4 = .ok (.iload_n 2, 1) := by decide +kernel
theorem dX11_emptyRooms_5 : decode cX11_emptyRooms 5 = .ok (.aload_n 0, 1) := by decide +kernel
theorem dX11_emptyRooms_6 : decode cX11_emptyRooms 6 = .ok (.getfield 44, 3) := by decide +kernel
theorem dX11_emptyRooms_9 : decode cX11_emptyRooms 9 = .ok (.invokevirtual 138, 3) := by decide +kernel
theorem dX11_emptyRooms_12 : decode cX11_emptyRooms 12 = .ok (.if_icmp .ge 29, 3) := by decide +kernel
theorem dX11_emptyRooms_15 : decode cX11_emptyRooms 15 = .ok (.aload_n 0, 1) := by decide +kernel
theorem dX11_emptyRooms_16 : decode cX11_emptyRooms 16 = .ok (.getfield 44, 3) := by decide +kernel
theorem dX11_emptyRooms_19 : decode cX11_emptyRooms 19 = .ok (.iload_n 2, 1) := by decide +kernel
theorem dX11_emptyRooms_20 : decode cX11_emptyRooms 20 = .ok (.invokevirtual 190, 3) := by decide +kernel
theorem dX11_emptyRooms_23 : decode cX11_emptyRooms 23 = .ok (.checkcast 197, 3) := by decide +kernel
theorem dX11_emptyRooms_26 : decode cX11_emptyRooms 26 = .ok (.getfield 207, 3) := by decide +kernel
theorem dX11_emptyRooms_29 : decode cX11_emptyRooms 29 = .ok (.ifnonnull 6, 3) := by decide +kernel
theorem dX11_emptyRooms_32 : decode cX11_emptyRooms 32 = .ok (.iinc 1 1, 3) := by decide +kernel
theorem dX11_emptyRooms_35 : decode cX11_emptyRooms 35 = .ok (.iinc 2 1, 3) := by decide +kernel
theorem dX11_emptyRooms_38 : decode cX11_emptyRooms 38 = .ok (.goto (-34), 3) := by decide +kernel
theorem dX11_emptyRooms_41 : decode cX11_emptyRooms 41 = .ok (.iload_n 1, 1) := by decide +kernel
theorem dX11_emptyRooms_42 : decode cX11_emptyRooms 42 = .ok (.ireturn, 1) := by decide +kernel
theorem dX11_bringRents_0 : decode cX11_bringRents 0 = .ok (.iconst 0, 1) := by decide +kernel
theorem dX11_bringRents_1 : decode cX11_bringRents 1 = .ok (.istore_n 1, 1) := by decide +kernel
theorem dX11_bringRents_2 : decode cX11_bringRents 2 = .ok (.iload_n 1, 1) := by decide +kernel
theorem dX11_bringRents_3 : decode cX11_bringRents 3 = .ok (.aload_n 0, 1) := by decide +kernel
theorem dX11_bringRents_4 : decode cX11_bringRents 4 = .ok (.getfield 57, 3) := by decide +kernel
theorem dX11_bringRents_7 : decode cX11_bringRents 7 = .ok (.invokevirtual 138, 3) := by decide +kernel
theorem dX11_bringRents_10 : decode cX11_bringRents 10 = .ok (.if_icmp .ge 43, 3) := by decide +kernel
theorem dX11_bringRents_13 : decode cX11_bringRents 13 = .ok (.aload_n 0, 1) := by decide +kernel
theorem dX11_bringRents_14 : decode cX11_bringRents 14 = .ok (.getfield 57, 3) := by decide +kernel
theorem dX11_bringRents_17 : decode cX11_bringRents 17 = .ok (.iload_n 1, 1) := by decide +kernel
theorem dX11_bringRents_18 : decode cX11_bringRents 18 = .ok (.invokevirtual 190, 3) := by decide +kernel
theorem dX11_bringRents_21 : decode cX11_bringRents 21 = .ok (.checkcast 238, 3) := by decide +kernel
theorem dX11_bringRents_24 : decode cX11_bringRents 24 = .ok (.astore_n 2, 1) := by decide +kernel
theorem dX11_bringRents_25 : decode cX11_bringRents 25 = .ok (.aload_n 2, 1) := by decide +kernel
theorem dX11_bringRents_26 : decode cX11_bringRents 26 = .ok (.aload_n 0, 1) := by decide +kernel
theorem dX11_bringRents_27 : decode cX11_bringRents 27 = .ok (.getfield 135, 3) := by decide +kernel
theorem dX11_bringRents_30 : decode cX11_bringRents 30 = .ok (.invokevirtual 289, 3) := by decide +kernel
theorem dX11_bringRents_33 : decode cX11_bringRents 33 = .ok (.ifCond .eq 14, 3) := by decide +kernel
theorem dX11_bringRents_36 : decode cX11_bringRents 36 = .ok (.aload_n 0, 1) := by decide +kernel
theorem dX11_bringRents_37 : decode cX11_bringRents 37 = .ok (.getfield 63, 3) := by decide +kernel
theorem dX11_bringRents_40 : decode cX11_bringRents 40 = .ok (.aload_n 2, 1) := by decide +kernel
theorem dX11_bringRents_41 : decode cX11_bringRents 41 = .ok (.getfield 292, 3) := by decide +kernel
theorem dX11_bringRents_44 : decode cX11_bringRents 44 = .ok (.invokevirtual 295, 3) := by decide +kernel
theorem dX11_bringRents_47 : decode cX11_bringRents 47 = .ok (.iinc 1 1, 3) := by decide +kernel
theorem dX11_bringRents_50 : decode cX11_bringRents 50 = .ok (.goto (-48), 3) := by decide +kernel
theorem dX11_bringRents_53 : decode cX11_bringRents 53 = .ok (.return_, 1) := by decide +kernel
theorem dX11_payDoles_0 : decode cX11_payDoles 0 = .ok (.iconst 0, 1) := by decide +kernel
theorem dX11_payDoles_1 : decode cX11_payDoles 1 = .ok (.istore_n 1, 1) := by decide +kernel
theorem dX11_payDoles_2 : decode cX11_payDoles 2 = .ok (.iload_n 1, 1) := by decide +kernel
theorem dX11_payDoles_3 : decode cX11_payDoles 3 = .ok (.aload_n 0, 1) := by decide +kernel
theorem dX11_payDoles_4 : decode cX11_payDoles 4 = .ok (.getfield 44, 3) := by decide +kernel
theorem dX11_payDoles_7 : decode cX11_payDoles 7 = .ok (.invokevirtual 138, 3) := by decide +kernel
theorem dX11_payDoles_10 : decode cX11_payDoles 10 = .ok (.if_icmp .ge 87, 3) := by decide +kernel
theorem dX11_payDoles_13 : decode cX11_payDoles 13 = .ok (.aload_n 0, 1) := by decide +kernel
theorem dX11_payDoles_14 : decode cX11_payDoles 14 = .ok (.getfield 44, 3) := by decide +kernel
theorem dX11_payDoles_17 : decode cX11_payDoles 17 = .ok (.iload_n 1, 1) := by decide +kernel
theorem dX11_payDoles_18 : decode cX11_payDoles 18 = .ok (.invokevirtual 190, 3) := by decide +kernel
theorem dX11_payDoles_21 : decode cX11_payDoles 21 = .ok (.checkcast 197, 3) := by decide +kernel
theorem dX11_payDoles_24 : decode cX11_payDoles 24 = .ok (.getfield 207, 3) := by decide +kernel
theorem dX11_payDoles_27 : decode cX11_payDoles 27 = .ok (.astore_n 2, 1) := by decide +kernel
theorem dX11_payDoles_28 : decode cX11_payDoles 28 = .ok (.aload_n 2, 1) := by decide +kernel
theorem dX11_payDoles_29 : decode cX11_payDoles 29 = .ok (.ifnonnull 7, 3) := by decide +kernel
theorem dX11_payDoles_32 : decode cX11_payDoles 32 = .ok (.aconst_null, 1) := by decide +kernel
theorem dX11_payDoles_33 : decode cX11_payDoles 33 = .ok (.goto 11, 3) := by decide +kernel
theorem dX11_payDoles_36 : decode cX11_payDoles 36 = .ok (.aload_n 0, 1) := by decide +kernel
theorem dX11_payDoles_37 : decode cX11_payDoles 37 = .ok (.aload_n 2, 1) := by decide +kernel
theorem dX11_payDoles_38 : decode cX11_payDoles 38 = .ok (.getfield 227, 3) := by decide +kernel
theorem dX11_payDoles_41 : decode cX11_payDoles 41 = .ok (.invokevirtual 150, 3) := by decide +kernel
theorem dX11_payDoles_44 : decode cX11_payDoles 44 = .ok (.astore_n 3, 1) := by decide +kernel
theorem dX11_payDoles_45 : decode cX11_payDoles 45 = .ok (.aload_n 3, 1) := by decide +kernel
theorem dX11_payDoles_46 : decode cX11_payDoles 46 = .ok (.ifnull 45, 3) := by decide +kernel
theorem dX11_payDoles_49 : decode cX11_payDoles 49 = .ok (.aload_n 0, 1) := by decide +kernel
theorem dX11_payDoles_50 : decode cX11_payDoles 50 = .ok (.getfield 67, 3) := by decide +kernel
theorem dX11_payDoles_53 : decode cX11_payDoles 53 = .ok (.aload_n 3, 1) := by decide +kernel
theorem dX11_payDoles_54 : decode cX11_payDoles 54 = .ok (.getfield 247, 3) := by decide +kernel
theorem dX11_payDoles_57 : decode cX11_payDoles 57 = .ok (.iadd, 1) := by decide +kernel
theorem dX11_payDoles_58 : decode cX11_payDoles 58 = .ok (.istore 4, 2) := by decide +kernel
theorem dX11_payDoles_60 : decode cX11_payDoles 60 = .ok (.aload_n 0, 1) := by decide +kernel
theorem dX11_payDoles_61 : decode cX11_payDoles 61 = .ok (.getfield 63, 3) := by decide +kernel
theorem dX11_payDoles_64 : decode cX11_payDoles 64 = .ok (.iload 4, 2) := by decide +kernel
theorem dX11_payDoles_66 : decode cX11_payDoles 66 = .ok (.invokevirtual 298, 3) := by decide +kernel
theorem dX11_payDoles_69 : decode cX11_payDoles 69 = .ok (.istore 5, 2) := by decide +kernel
theorem dX11_payDoles_71 : decode cX11_payDoles 71 = .ok (.aload_n 3, 1) := by decide +kernel
theorem dX11_payDoles_72 : decode cX11_payDoles 72 = .ok (.dup, 1) := by decide +kernel
theorem dX11_payDoles_73 : decode cX11_payDoles 73 = .ok (.getfield 250, 3) := by decide +kernel
theorem dX11_payDoles_76 : decode cX11_payDoles 76 = .ok (.iload 5, 2) := by decide +kernel
theorem dX11_payDoles_78 : decode cX11_payDoles 78 = .ok (.iadd, 1) := by decide +kernel
theorem dX11_payDoles_79 : decode cX11_payDoles 79 = .ok (.putfield 250, 3) := by decide +kernel
theorem dX11_payDoles_82 : decode cX11_payDoles 82 = .ok (.aload_n 3, 1) := by decide +kernel
theorem dX11_payDoles_83 : decode cX11_payDoles 83 = .ok (.iload 4, 2) := by decide +kernel
theorem dX11_payDoles_85 : decode cX11_payDoles 85 = .ok (.iload 5, 2) := by decide +kernel
theorem dX11_payDoles_87 : decode cX11_payDoles 87 = .ok (.isub, 1) := by decide +kernel
theorem dX11_payDoles_88 : decode cX11_payDoles 88 = .ok (.putfield 247, 3) := by decide +kernel
theorem dX11_payDoles_91 : decode cX11_payDoles 91 = .ok (.iinc 1 1, 3) := by decide +kernel
theorem dX11_payDoles_94 : decode cX11_payDoles 94 = .ok (.goto (-92), 3) := by decide +kernel
theorem dX11_payDoles_97 : decode cX11_payDoles 97 = .ok (.return_, 1) := by decide +kernel
theorem dX12_init_0 : decode cX12_init 0 = .ok (.aload_n 0, 1) := by decide +kernel
theorem dX12_init_1 : decode cX12_init 1 = .ok (.invokespecial 3, 3) := by decide +kernel
theorem dX12_init_4 : decode cX12_init 4 = .ok (.aload_n 0, 1) := by decide +kernel
theorem dX12_init_5 : decode cX12_init 5 = .ok (.bipush 12, 2) := by decide +kernel
theorem dX12_init_7 : decode cX12_init 7 = .ok (.newarray .int, 2) := by decide +kernel
theorem dX12_init_9 : decode cX12_init 9 = .ok (.putfield 9, 3) := by decide +kernel
theorem dX12_init_12 : decode cX12_init 12 = .ok (.aload_n 0, 1) := by decide +kernel
theorem dX12_init_13 : decode cX12_init 13 = .ok (.bipush 12, 2) := by decide +kernel
theorem dX12_init_15 : decode cX12_init 15 = .ok (.newarray .int, 2) := by decide +kernel
theorem dX12_init_17 : decode cX12_init 17 = .ok (.putfield 15, 3) := by decide +kernel
theorem dX12_init_20 : decode cX12_init 20 = .ok (.aload_n 0, 1) := by decide +kernel
theorem dX12_init_21 : decode cX12_init 21 = .ok (.bipush 12, 2) := by decide +kernel
theorem dX12_init_23 : decode cX12_init 23 = .ok (.newarray .int, 2) := by decide +kernel
theorem dX12_init_25 : decode cX12_init 25 = .ok (.putfield 18, 3) := by decide +kernel
theorem dX12_init_28 : decode cX12_init 28 = .ok (.aload_n 0, 1) := by decide +kernel
theorem dX12_init_29 : decode cX12_init 29 = .ok (.bipush 12, 2) := by decide +kernel
theorem dX12_init_31 : decode cX12_init 31 = .ok (.newarray .int, 2) := by decide +kernel
theorem dX12_init_33 : decode cX12_init 33 = .ok (.putfield 21, 3) := by decide +kernel
theorem dX12_init_36 : decode cX12_init 36 = .ok (.aload_n 0, 1) := by decide +kernel
theorem dX12_init_37 : decode cX12_init 37 = .ok (.bipush 12, 2) := by decide +kernel
theorem dX12_init_39 : decode cX12_init 39 = .ok (.newarray .int, 2) := by decide +kernel
theorem dX12_init_41 : decode cX12_init 41 = .ok (.putfield 24, 3) := by decide +kernel
theorem dX12_init_44 : decode cX12_init 44 = .ok (.aload_n 0, 1) := by decide +kernel
theorem dX12_init_45 : decode cX12_init 45 = .ok (.sipush 130, 3) := by decide +kernel
theorem dX12_init_48 : decode cX12_init 48 = .ok (.newarray .int, 2) := by decide +kernel
theorem dX12_init_50 : decode cX12_init 50 = .ok (.putfield 27, 3) := by decide +kernel
theorem dX12_init_53 : decode cX12_init 53 = .ok (.aload_n 0, 1) := by decide +kernel
theorem dX12_init_54 : decode cX12_init 54 = .ok (.sipush 130, 3) := by decide +kernel
theorem dX12_init_57 : decode cX12_init 57 = .ok (.newarray .int, 2) := by decide +kernel
theorem dX12_init_59 : decode cX12_init 59 = .ok (.putfield 30, 3) := by decide +kernel
theorem dX12_init_62 : decode cX12_init 62 = .ok (.aload_n 0, 1) := by decide +kernel
theorem dX12_init_63 : decode cX12_init 63 = .ok (.sipush 130, 3) := by decide +kernel
theorem dX12_init_66 : decode cX12_init 66 = .ok (.newarray .int, 2) := by decide +kernel
theorem dX12_init_68 : decode cX12_init 68 = .ok (.putfield 33, 3) := by decide +kernel
theorem dX12_init_71 : decode cX12_init 71 = .ok (.aload_n 0, 1) := by decide +kernel
theorem dX12_init_72 : decode cX12_init 72 = .ok (.bipush 48, 2) := by decide +kernel
theorem dX12_init_74 : decode cX12_init 74 = .ok (.newarray .int, 2) := by decide +kernel
theorem dX12_init_76 : decode cX12_init 76 = .ok (.putfield 36, 3) := by decide +kernel
theorem dX12_init_79 : decode cX12_init 79 = .ok (.aload_n 0, 1) := by decide +kernel
theorem dX12_init_80 : decode cX12_init 80 = .ok (.bipush 48, 2) := by decide +kernel
theorem dX12_init_82 : decode cX12_init 82 = .ok (.newarray .int, 2) := by decide +kernel
theorem dX12_init_84 : decode cX12_init 84 = .ok (.putfield 39, 3) := by decide +kernel
theorem dX12_init_87 : decode cX12_init 87 = .ok (.return_, 1) := by decide +kernel
theorem dX12_put_0 : decode cX12_put 0 = .ok (.aload_n 0, 1) := by decide +kernel
theorem dX12_put_1 : decode cX12_put 1 = .ok (.getfield 27, 3) := by decide +kernel
theorem dX12_put_4 : decode cX12_put 4 = .ok (.aload_n 0, 1) := by decide +kernel
theorem dX12_put_5 : decode cX12_put 5 = .ok (.getfield 42, 3) := by decide +kernel
theorem dX12_put_8 : decode cX12_put 8 = .ok (.iload_n 1, 1) := by decide +kernel
theorem dX12_put_9 : decode cX12_put 9 = .ok (.iastore, 1) := by decide +kernel
theorem dX12_put_10 : decode cX12_put 10 = .ok (.aload_n 0, 1) := by decide +kernel
theorem dX12_put_11 : decode cX12_put 11 = .ok (.getfield 30, 3) := by decide +kernel
theorem dX12_put_14 : decode cX12_put 14 = .ok (.aload_n 0, 1) := by decide +kernel
theorem dX12_put_15 : decode cX12_put 15 = .ok (.getfield 42, 3) := by decide +kernel
theorem dX12_put_18 : decode cX12_put 18 = .ok (.iload_n 2, 1) := by decide +kernel
theorem dX12_put_19 : decode cX12_put 19 = .ok (.iastore, 1) := by decide +kernel
theorem dX12_put_20 : decode cX12_put 20 = .ok (.aload_n 0, 1) := by decide +kernel
theorem dX12_put_21 : decode cX12_put 21 = .ok (.getfield 33, 3) := by decide +kernel
theorem dX12_put_24 : decode cX12_put 24 = .ok (.aload_n 0, 1) := by decide +kernel
theorem dX12_put_25 : decode cX12_put 25 = .ok (.getfield 42, 3) := by decide +kernel
theorem dX12_put_28 : decode cX12_put 28 = .ok (.iload_n 3, 1) := by decide +kernel
theorem dX12_put_29 : decode cX12_put 29 = .ok (.iastore, 1) := by decide +kernel
theorem dX12_put_30 : decode cX12_put 30 = .ok (.aload_n 0, 1) := by decide +kernel
theorem dX12_put_31 : decode cX12_put 31 = .ok (.dup, 1) := by decide +kernel
theorem dX12_put_32 : decode cX12_put 32 = .ok (.getfield 42, 3) := by decide +kernel
theorem dX12_put_35 : decode cX12_put 35 = .ok (.iconst 1, 1) := by decide +kernel
theorem dX12_put_36 : decode cX12_put 36 = .ok (.iadd, 1) := by decide +kernel
theorem dX12_put_37 : decode cX12_put 37 = .ok (.putfield 42, 3) := by decide +kernel
theorem dX12_put_40 : decode cX12_put 40 = .ok (.return_, 1) := by decide +kernel
theorem dX13_init_0 : decode cX13_init 0 = .ok (.aload_n 0, 1) := by decide +kernel
theorem dX13_init_1 : decode cX13_init 1 = .ok (.aconst_null, 1) := by decide +kernel
theorem dX13_init_2 : decode cX13_init 2 = .ok (.aconst_null, 1) := by decide +kernel
theorem dX13_init_3 : decode cX13_init 3 = .ok (.iconst 0, 1) := by decide +kernel
theorem dX13_init_4 : decode cX13_init 4 = .ok (.iconst 0, 1) := by decide +kernel
theorem dX13_init_5 : decode cX13_init 5 = .ok (.invokespecial 1, 3) := by decide +kernel
theorem dX13_init_8 : decode cX13_init 8 = .ok (.return_, 1) := by decide +kernel
theorem dX14_init_0 : decode cX14_init 0 = .ok (.aload_n 0, 1) := by decide +kernel
theorem dX14_init_1 : decode cX14_init 1 = .ok (.invokespecial 1, 3) := by decide +kernel
theorem dX14_init_4 : decode cX14_init 4 = .ok (.aload_n 0, 1) := by decide +kernel
theorem dX14_init_5 : decode cX14_init 5 = .ok (.iconst (-1), 1) := by decide +kernel
theorem dX14_init_6 : decode cX14_init 6 = .ok (.putfield 9, 3) := by decide +kernel
theorem dX14_init_9 : decode cX14_init 9 = .ok (.aload_n 0, 1) := by decide +kernel
theorem dX14_init_10 : decode cX14_init 10 = .ok (.bipush 40, 2) := by decide +kernel
theorem dX14_init_12 : decode cX14_init 12 = .ok (.anewarray 13, 3) := by decide +kernel
theorem dX14_init_15 : decode cX14_init 15 = .ok (.putfield 15, 3) := by decide +kernel
theorem dX14_init_18 : decode cX14_init 18 = .ok (.aload_n 0, 1) := by decide +kernel
theorem dX14_init_19 : decode cX14_init 19 = .ok (.new 13, 3) := by decide +kernel
theorem dX14_init_22 : decode cX14_init 22 = .ok (.dup, 1) := by decide +kernel
theorem dX14_init_23 : decode cX14_init 23 = .ok (.invokespecial 19, 3) := by decide +kernel
theorem dX14_init_26 : decode cX14_init 26 = .ok (.putfield 20, 3) := by decide +kernel
theorem dX14_init_29 : decode cX14_init 29 = .ok (.aload_n 0, 1) := by decide +kernel
theorem dX14_init_30 : decode cX14_init 30 = .ok (.new 24, 3) := by decide +kernel
theorem dX14_init_33 : decode cX14_init 33 = .ok (.dup, 1) := by decide +kernel
theorem dX14_init_34 : decode cX14_init 34 = .ok (.invokespecial 26, 3) := by decide +kernel
theorem dX14_init_37 : decode cX14_init 37 = .ok (.putfield 27, 3) := by decide +kernel
theorem dX14_init_40 : decode cX14_init 40 = .ok (.aload_n 0, 1) := by decide +kernel
theorem dX14_init_41 : decode cX14_init 41 = .ok (.sipush 300, 3) := by decide +kernel
theorem dX14_init_44 : decode cX14_init 44 = .ok (.newarray .byte, 2) := by decide +kernel
theorem dX14_init_46 : decode cX14_init 46 = .ok (.putfield 31, 3) := by decide +kernel
theorem dX14_init_49 : decode cX14_init 49 = .ok (.aload_n 0, 1) := by decide +kernel
theorem dX14_init_50 : decode cX14_init 50 = .ok (.bipush 40, 2) := by decide +kernel
theorem dX14_init_52 : decode cX14_init 52 = .ok (.newarray .int, 2) := by decide +kernel
theorem dX14_init_54 : decode cX14_init 54 = .ok (.putfield 35, 3) := by decide +kernel
theorem dX14_init_57 : decode cX14_init 57 = .ok (.aload_n 0, 1) := by decide +kernel
theorem dX14_init_58 : decode cX14_init 58 = .ok (.bipush 40, 2) := by decide +kernel
theorem dX14_init_60 : decode cX14_init 60 = .ok (.newarray .int, 2) := by decide +kernel
theorem dX14_init_62 : decode cX14_init 62 = .ok (.putfield 39, 3) := by decide +kernel
theorem dX14_init_65 : decode cX14_init 65 = .ok (.aload_n 0, 1) := by decide +kernel
theorem dX14_init_66 : decode cX14_init 66 = .ok (.bipush 40, 2) := by decide +kernel
theorem dX14_init_68 : decode cX14_init 68 = .ok (.newarray .int, 2) := by decide +kernel
theorem dX14_init_70 : decode cX14_init 70 = .ok (.putfield 42, 3) := by decide +kernel
theorem dX14_init_73 : decode cX14_init 73 = .ok (.aload_n 0, 1) := by decide +kernel
theorem dX14_init_74 : decode cX14_init 74 = .ok (.bipush 40, 2) := by decide +kernel
theorem dX14_init_76 : decode cX14_init 76 = .ok (.newarray .int, 2) := by decide +kernel
theorem dX14_init_78 : decode cX14_init 78 = .ok (.putfield 45, 3) := by decide +kernel
theorem dX14_init_81 : decode cX14_init 81 = .ok (.aload_n 0, 1) := by decide +kernel
theorem dX14_init_82 : decode cX14_init 82 = .ok (.bipush 40, 2) := by decide +kernel
theorem dX14_init_84 : decode cX14_init 84 = .ok (.newarray .int, 2) := by decide +kernel
theorem dX14_init_86 : decode cX14_init 86 = .ok (.putfield 48, 3) := by decide +kernel
theorem dX14_init_89 : decode cX14_init 89 = .ok (.aload_n 0, 1) := by decide +kernel
theorem dX14_init_90 : decode cX14_init 90 = .ok (.bipush 40, 2) := by decide +kernel
theorem dX14_init_92 : decode cX14_init 92 = .ok (.newarray .int, 2) := by decide +kernel
theorem dX14_init_94 : decode cX14_init 94 = .ok (.putfield 51, 3) := by decide +kernel
theorem dX14_init_97 : decode cX14_init 97 = .ok (.aload_n 0, 1) := by decide +kernel
theorem dX14_init_98 : decode cX14_init 98 = .ok (.bipush 40, 2) := by decide +kernel
theorem dX14_init_100 : decode cX14_init 100 = .ok (.newarray .int, 2) := by decide +kernel
theorem dX14_init_102 : decode cX14_init 102 = .ok (.putfield 54, 3) := by decide +kernel
theorem dX14_init_105 : decode cX14_init 105 = .ok (.aload_n 0, 1) := by decide +kernel
theorem dX14_init_106 : decode cX14_init 106 = .ok (.bipush 40, 2) := by decide +kernel
theorem dX14_init_108 : decode cX14_init 108 = .ok (.newarray .int, 2) := by decide +kernel
theorem dX14_init_110 : decode cX14_init 110 = .ok (.putfield 57, 3) := by decide +kernel
theorem dX14_init_113 : decode cX14_init 113 = .ok (.aload_n 0, 1) := by decide +kernel
theorem dX14_init_114 : decode cX14_init 114 = .ok (.bipush 40, 2) := by decide +kernel
theorem dX14_init_116 : decode cX14_init 116 = .ok (.newarray .boolean, 2) := by decide +kernel
theorem dX14_init_118 : decode cX14_init 118 = .ok (.putfield 60, 3) := by decide +kernel
theorem dX14_init_121 : decode cX14_init 121 = .ok (.aload_n 0, 1) := by decide +kernel
theorem dX14_init_122 : decode cX14_init 122 = .ok (.sipush 240, 3) := by decide +kernel
theorem dX14_init_125 : decode cX14_init 125 = .ok (.newarray .int, 2) := by decide +kernel
theorem dX14_init_127 : decode cX14_init 127 = .ok (.putfield 64, 3) := by decide +kernel
theorem dX14_init_130 : decode cX14_init 130 = .ok (.aload_n 0, 1) := by decide +kernel
theorem dX14_init_131 : decode cX14_init 131 = .ok (.sipush 240, 3) := by decide +kernel
theorem dX14_init_134 : decode cX14_init 134 = .ok (.newarray .int, 2) := by decide +kernel
theorem dX14_init_136 : decode cX14_init 136 = .ok (.putfield 67, 3) := by decide +kernel
theorem dX14_init_139 : decode cX14_init 139 = .ok (.aload_n 0, 1) := by decide +kernel
theorem dX14_init_140 : decode cX14_init 140 = .ok (.sipush 130, 3) := by decide +kernel
theorem dX14_init_143 : decode cX14_init 143 = .ok (.newarray .boolean, 2) := by decide +kernel
theorem dX14_init_145 : decode cX14_init 145 = .ok (.putfield 70, 3) := by decide +kernel
theorem dX14_init_148 : decode cX14_init 148 = .ok (.aload_n 0, 1) := by decide +kernel
theorem dX14_init_149 : decode cX14_init 149 = .ok (.iconst (-1), 1) := by decide +kernel
theorem dX14_init_150 : decode cX14_init 150 = .ok (.putfield 73, 3) := by decide +kernel
theorem dX14_init_153 : decode cX14_init 153 = .ok (.aload_n 0, 1) := by decide +kernel
theorem dX14_init_154 : decode cX14_init 154 = .ok (.bipush 20, 2) := by decide +kernel
theorem dX14_init_156 : decode cX14_init 156 = .ok (.newarray .int, 2) := by decide +kernel
theorem dX14_init_158 : decode cX14_init 158 = .ok (.putfield 76, 3) := by decide +kernel
theorem dX14_init_161 : decode cX14_init 161 = .ok (.aload_n 0, 1) := by decide +kernel
theorem dX14_init_162 : decode cX14_init 162 = .ok (.bipush 20, 2) := by decide +kernel
theorem dX14_init_164 : decode cX14_init 164 = .ok (.newarray .int, 2) := by decide +kernel
theorem dX14_init_166 : decode cX14_init 166 = .ok (.putfield 79, 3) := by decide +kernel
theorem dX14_init_169 : decode cX14_init 169 = .ok (.aload_n 0, 1) := by decide +kernel
theorem dX14_init_170 : decode cX14_init 170 = .ok (.bipush 20, 2) := by decide +kernel
theorem dX14_init_172 : decode cX14_init 172 = .ok (.newarray .int, 2) := by decide +kernel
theorem dX14_init_174 : decode cX14_init 174 = .ok (.putfield 82, 3) := by decide +kernel
theorem dX14_init_177 : decode cX14_init 177 = .ok (.aload_n 0, 1) := by decide +kernel
theorem dX14_init_178 : decode cX14_init 178 = .ok (.bipush 100, 2) := by decide +kernel
theorem dX14_init_180 : decode cX14_init 180 = .ok (.newarray .int, 2) := by decide +kernel
theorem dX14_init_182 : decode cX14_init 182 = .ok (.putfield 85, 3) := by decide +kernel
theorem dX14_init_185 : decode cX14_init 185 = .ok (.aload_n 0, 1) := by decide +kernel
theorem dX14_init_186 : decode cX14_init 186 = .ok (.bipush 100, 2) := by decide +kernel
theorem dX14_init_188 : decode cX14_init 188 = .ok (.newarray .int, 2) := by decide +kernel
theorem dX14_init_190 : decode cX14_init 190 = .ok (.putfield 88, 3) := by decide +kernel
theorem dX14_init_193 : decode cX14_init 193 = .ok (.aload_n 0, 1) := by decide +kernel
theorem dX14_init_194 : decode cX14_init 194 = .ok (.bipush 100, 2) := by decide +kernel
theorem dX14_init_196 : decode cX14_init 196 = .ok (.newarray .int, 2) := by decide +kernel
theorem dX14_init_198 : decode cX14_init 198 = .ok (.putfield 91, 3) := by decide +kernel
theorem dX14_init_201 : decode cX14_init 201 = .ok (.aload_n 0, 1) := by decide +kernel
theorem dX14_init_202 : decode cX14_init 202 = .ok (.bipush 100, 2) := by decide +kernel
theorem dX14_init_204 : decode cX14_init 204 = .ok (.newarray .int, 2) := by decide +kernel
theorem dX14_init_206 : decode cX14_init 206 = .ok (.putfield 94, 3) := by decide +kernel
theorem dX14_init_209 : decode cX14_init 209 = .ok (.aload_n 0, 1) := by decide +kernel
theorem dX14_init_210 : decode cX14_init 210 = .ok (.bipush 8, 2) := by decide +kernel
theorem dX14_init_212 : decode cX14_init 212 = .ok (.newarray .boolean, 2) := by decide +kernel
theorem dX14_init_214 : decode cX14_init 214 = .ok (.putfield 97, 3) := by decide +kernel
theorem dX14_init_217 : decode cX14_init 217 = .ok (.aload_n 0, 1) := by decide +kernel
theorem dX14_init_218 : decode cX14_init 218 = .ok (.bipush 10, 2) := by decide +kernel
theorem dX14_init_220 : decode cX14_init 220 = .ok (.putfield 100, 3) := by decide +kernel
theorem dX14_init_223 : decode cX14_init 223 = .ok (.aload_n 0, 1) := by decide +kernel
theorem dX14_init_224 : decode cX14_init 224 = .ok (.bipush 10, 2) := by decide +kernel
theorem dX14_init_226 : decode cX14_init 226 = .ok (.newarray .int, 2) := by decide +kernel
theorem dX14_init_228 : decode cX14_init 228 = .ok (.putfield 103, 3) := by decide +kernel
theorem dX14_init_231 : decode cX14_init 231 = .ok (.aload_n 0, 1) := by decide +kernel
theorem dX14_init_232 : decode cX14_init 232 = .ok (.bipush 10, 2) := by decide +kernel
theorem dX14_init_234 : decode cX14_init 234 = .ok (.newarray .int, 2) := by decide +kernel
theorem dX14_init_236 : decode cX14_init 236 = .ok (.putfield 106, 3) := by decide +kernel
theorem dX14_init_239 : decode cX14_init 239 = .ok (.aload_n 0, 1) := by decide +kernel
theorem dX14_init_240 : decode cX14_init 240 = .ok (.bipush 10, 2) := by decide +kernel
theorem dX14_init_242 : decode cX14_init 242 = .ok (.newarray .int, 2) := by decide +kernel
theorem dX14_init_244 : decode cX14_init 244 = .ok (.putfield 109, 3) := by decide +kernel
theorem dX14_init_247 : decode cX14_init 247 = .ok (.return_, 1) := by decide +kernel
theorem dX14_refused_0 : decode cX14_refused 0 = .ok (.aload_n 0, 1) := by decide +kernel
theorem dX14_refused_1 : decode cX14_refused 1 = .ok (.iload_n 1, 1) := by decide +kernel
theorem dX14_refused_2 : decode cX14_refused 2 = .ok (.putfield 115, 3) := by decide +kernel
theorem dX14_refused_5 : decode cX14_refused 5 = .ok (.aload_n 0, 1) := by decide +kernel
theorem dX14_refused_6 : decode cX14_refused 6 = .ok (.iconst (-1), 1) := by decide +kernel
theorem dX14_refused_7 : decode cX14_refused 7 = .ok (.putfield 9, 3) := by decide +kernel
theorem dX14_refused_10 : decode cX14_refused 10 = .ok (.iconst (-1), 1) := by decide +kernel
theorem dX14_refused_11 : decode cX14_refused 11 = .ok (.ireturn, 1) := by decide +kernel
theorem dX14_denied_0 : decode cX14_denied 0 = .ok (.aload_n 0, 1) := by decide +kernel
theorem dX14_denied_1 : decode cX14_denied 1 = .ok (.iload_n 1, 1) := by decide +kernel
theorem dX14_denied_2 : decode cX14_denied 2 = .ok (.putfield 115, 3) := by decide +kernel
theorem dX14_denied_5 : decode cX14_denied 5 = .ok (.aload_n 0, 1) := by decide +kernel
theorem dX14_denied_6 : decode cX14_denied 6 = .ok (.iconst (-1), 1) := by decide +kernel
theorem dX14_denied_7 : decode cX14_denied 7 = .ok (.putfield 9, 3) := by decide +kernel
theorem dX14_denied_10 : decode cX14_denied 10 = .ok (.iconst 0, 1) := by decide +kernel
theorem dX14_denied_11 : decode cX14_denied 11 = .ok (.ireturn, 1) := by decide +kernel
theorem dX14_done_0 : decode cX14_done 0 = .ok (.aload_n 0, 1) := by decide +kernel
theorem dX14_done_1 : decode cX14_done 1 = .ok (.iconst 0, 1) := by decide +kernel
theorem dX14_done_2 : decode cX14_done 2 = .ok (.putfield 115, 3) := by decide +kernel
theorem dX14_done_5 : decode cX14_done 5 = .ok (.aload_n 0, 1) := by decide +kernel
theorem dX14_done_6 : decode cX14_done 6 = .ok (.iconst (-1), 1) := by decide +kernel
theorem dX14_done_7 : decode cX14_done 7 = .ok (.putfield 9, 3) := by decide +kernel
theorem dX14_done_10 : decode cX14_done 10 = .ok (.iload_n 1, 1) := by decide +kernel
theorem dX14_done_11 : decode cX14_done 11 = .ok (.ireturn, 1) := by decide +kernel
theorem dX14_granted_0 : decode cX14_granted 0 = .ok (.aload_n 0, 1) := by decide +kernel
theorem dX14_granted_1 : decode cX14_granted 1 = .ok (.iconst 0, 1) := by decide +kernel
theorem dX14_granted_2 : decode cX14_granted 2 = .ok (.putfield 115, 3) := by decide +kernel
theorem dX14_granted_5 : decode cX14_granted 5 = .ok (.aload_n 0, 1) := by decide +kernel
theorem dX14_granted_6 : decode cX14_granted 6 = .ok (.iconst (-1), 1) := by decide +kernel
theorem dX14_granted_7 : decode cX14_granted 7 = .ok (.putfield 9, 3) := by decide +kernel
theorem dX14_granted_10 : decode cX14_granted 10 = .ok (.iconst 1, 1) := by decide +kernel
theorem dX14_granted_11 : decode cX14_granted 11 = .ok (.ireturn, 1) := by decide +kernel
theorem dX14_in_0 : decode cX14_in 0 = .ok (.iload_n 0, 1) := by decide +kernel
theorem dX14_in_1 : decode cX14_in 1 = .ok (.iload_n 1, 1) := by decide +kernel
theorem dX14_in_2 : decode cX14_in 2 = .ok (.if_icmp .lt 12, 3) := by decide +kernel
theorem dX14_in_5 : decode cX14_in 5 = .ok (.iload_n 0, 1) := by decide +kernel
theorem dX14_in_6 : decode cX14_in 6 = .ok (.iload_n 2, 1) := by decide +kernel
theorem dX14_in_7 : decode cX14_in 7 = .ok (.if_icmp .gt 7, 3) := by decide +kernel
theorem dX14_in_10 : decode cX14_in 10 = .ok (.iconst 1, 1) := by decide +kernel
theorem dX14_in_11 : decode cX14_in 11 = .ok (.goto 4, 3) := by decide +kernel
theorem dX14_in_14 : decode cX14_in 14 = .ok (.iconst 0, 1) := by decide +kernel
theorem dX14_in_15 : decode cX14_in 15 = .ok (.ireturn, 1) := by decide +kernel
theorem dX14_will_0 : decode cX14_will 0 = .ok (.aload_n 0, 1) := by decide +kernel
theorem dX14_will_1 : decode cX14_will 1 = .ok (.iconst 0, 1) := by decide +kernel
theorem dX14_will_2 : decode cX14_will 2 = .ok (.putfield 112, 3) := by decide +kernel
theorem dX14_will_5 : decode cX14_will 5 = .ok (.aload_n 0, 1) := by decide +kernel
theorem dX14_will_6 : decode cX14_will 6 = .ok (.getfield 118, 3) := by decide +kernel
theorem dX14_will_9 : decode cX14_will 9 = .ok (.iconst 4, 1) := by decide +kernel
theorem dX14_will_10 : decode cX14_will 10 = .ok (.if_icmp .ne 9, 3) := by decide +kernel
theorem dX14_will_13 : decode cX14_will 13 = .ok (.aload_n 0, 1) := by decide +kernel
theorem dX14_will_14 : decode cX14_will 14 = .ok (.iconst 3, 1) := by decide +kernel
theorem dX14_will_15 : decode cX14_will 15 = .ok (.invokevirtual 121, 3) := by decide +kernel
theorem dX14_will_18 : decode cX14_will 18 = .ok (.ireturn, 1) := by decide +kernel
theorem dX14_will_19 : decode cX14_will 19 = .ok (.aload_n 0, 1) := by decide +kernel
theorem dX14_will_20 : decode cX14_will 20 = .ok (.dup, 1) := by decide +kernel
theorem dX14_will_21 : decode cX14_will 21 = .ok (.getfield 118, 3) := by decide +kernel
theorem dX14_will_24 : decode cX14_will 24 = .ok (.iconst 1, 1) := by decide +kernel
theorem dX14_will_25 : decode cX14_will 25 = .ok (.iadd, 1) := by decide +kernel
theorem dX14_will_26 : decode cX14_will 26 = .ok (.putfield 118, 3) := by decide +kernel
theorem dX14_will_29 : decode cX14_will 29 = .ok (.aload_n 0, 1) := by decide +kernel
theorem dX14_will_30 : decode cX14_will 30 = .ok (.aload_n 0, 1) := by decide +kernel
theorem dX14_will_31 : decode cX14_will 31 = .ok (.getfield 118, 3) := by decide +kernel
theorem dX14_will_34 : decode cX14_will 34 = .ok (.iconst 1, 1) := by decide +kernel
theorem dX14_will_35 : decode cX14_will 35 = .ok (.isub, 1) := by decide +kernel
theorem dX14_will_36 : decode cX14_will 36 = .ok (.invokevirtual 125, 3) := by decide +kernel
theorem dX14_will_39 : decode cX14_will 39 = .ok (.ireturn, 1) := by decide +kernel
theorem dX14_stop_0 : decode cX14_stop 0 = .ok (.aload_n 0, 1) := by decide +kernel
theorem dX14_stop_1 : decode cX14_stop 1 = .ok (.getfield 27, 3) := by decide +kernel
theorem dX14_stop_4 : decode cX14_stop 4 = .ok (.iload_n 1, 1) := by decide +kernel
theorem dX14_stop_5 : decode cX14_stop 5 = .ok (.putfield 128, 3) := by decide +kernel
theorem dX14_stop_8 : decode cX14_stop 8 = .ok (.aload_n 0, 1) := by decide +kernel
theorem dX14_stop_9 : decode cX14_stop 9 = .ok (.getfield 27, 3) := by decide +kernel
theorem dX14_stop_12 : decode cX14_stop 12 = .ok (.aload_n 0, 1) := by decide +kernel
theorem dX14_stop_13 : decode cX14_stop 13 = .ok (.getfield 131, 3) := by decide +kernel
theorem dX14_stop_16 : decode cX14_stop 16 = .ok (.putfield 134, 3) := by decide +kernel
theorem dX14_stop_19 : decode cX14_stop 19 = .ok (.aload_n 0, 1) := by decide +kernel
theorem dX14_stop_20 : decode cX14_stop 20 = .ok (.getfield 27, 3) := by decide +kernel
theorem dX14_stop_23 : decode cX14_stop 23 = .ok (.areturn, 1) := by decide +kernel
theorem dX14_byteAt_0 : decode cX14_byteAt 0 = .ok (.iload_n 1, 1) := by decide +kernel
theorem dX14_byteAt_1 : decode cX14_byteAt 1 = .ok (.aload_n 0, 1) := by decide +kernel
theorem dX14_byteAt_2 : decode cX14_byteAt 2 = .ok (.getfield 135, 3) := by decide +kernel
theorem dX14_byteAt_5 : decode cX14_byteAt 5 = .ok (.if_icmp .ge 16, 3) := by decide +kernel
theorem dX14_byteAt_8 : decode cX14_byteAt 8 = .ok (.aload_n 0, 1) := by decide +kernel
theorem dX14_byteAt_9 : decode cX14_byteAt 9 = .ok (.getfield 31, 3) := by decide +kernel
theorem dX14_byteAt_12 : decode cX14_byteAt 12 = .ok (.iload_n 1, 1) := by decide +kernel
theorem dX14_byteAt_13 : decode cX14_byteAt 13 = .ok (.baload, 1) := by decide +kernel
theorem dX14_byteAt_14 : decode cX14_byteAt 14 = .ok (.sipush 255, 3) := by decide +kernel
theorem dX14_byteAt_17 : decode cX14_byteAt 17 = .ok (.iand, 1) := by decide +kernel
theorem dX14_byteAt_18 : decode cX14_byteAt 18 = .ok (.goto 4, 3) := by decide +kernel
theorem dX14_byteAt_21 : decode cX14_byteAt 21 = .ok (.iconst (-1), 1) := by decide +kernel
theorem dX14_byteAt_22 : decode cX14_byteAt 22 = .ok (.ireturn, 1) := by decide +kernel
theorem dX14_isLetter_0 : decode cX14_isLetter 0 = .ok (.iload_n 0, 1) := by decide +kernel
theorem dX14_isLetter_1 : decode cX14_isLetter 1 = .ok (.bipush 97, 2) := by decide +kernel
theorem dX14_isLetter_3 : decode cX14_isLetter 3 = .ok (.if_icmp .lt 13, 3) := by decide +kernel
theorem dX14_isLetter_6 : decode cX14_isLetter 6 = .ok (.iload_n 0, 1) := by decide +kernel
theorem dX14_isLetter_7 : decode cX14_isLetter 7 = .ok (.bipush 122, 2) := by decide +kernel
theorem dX14_isLetter_9 : decode cX14_isLetter 9 = .ok (.if_icmp .gt 7, 3) := by decide +kernel
theorem dX14_isLetter_12 : decode cX14_isLetter 12 = .ok (.iconst 1, 1) := by decide +kernel
theorem dX14_isLetter_13 : decode cX14_isLetter 13 = .ok (.goto 4, 3) := by decide +kernel
theorem dX14_isLetter_16 : decode cX14_isLetter 16 = .ok (.iconst 0, 1) := by decide +kernel
theorem dX14_isLetter_17 : decode cX14_isLetter 17 = .ok (.ireturn, 1) := by decide +kernel
theorem dX14_isDigit_0 : decode cX14_isDigit 0 = .ok (.iload_n 0, 1) := by decide +kernel
theorem dX14_isDigit_1 : decode cX14_isDigit 1 = .ok (.bipush 48, 2) := by decide +kernel
theorem dX14_isDigit_3 : decode cX14_isDigit 3 = .ok (.if_icmp .lt 13, 3) := by decide +kernel
theorem dX14_isDigit_6 : decode cX14_isDigit 6 = .ok (.iload_n 0, 1) := by decide +kernel
theorem dX14_isDigit_7 : decode cX14_isDigit 7 = .ok (.bipush 57, 2) := by decide +kernel
theorem dX14_isDigit_9 : decode cX14_isDigit 9 = .ok (.if_icmp .gt 7, 3) := by decide +kernel
theorem dX14_isDigit_12 : decode cX14_isDigit 12 = .ok (.iconst 1, 1) := by decide +kernel
theorem dX14_isDigit_13 : decode cX14_isDigit 13 = .ok (.goto 4, 3) := by decide +kernel
theorem dX14_isDigit_16 : decode cX14_isDigit 16 = .ok (.iconst 0, 1) := by decide +kernel
theorem dX14_isDigit_17 : decode cX14_isDigit 17 = .ok (.ireturn, 1) := by decide +kernel
theorem dX14_wordOf_0 : decode cX14_wordOf 0 = .ok (.lconst 0, 1) := by decide +kernel
theorem dX14_wordOf_1 : decode cX14_wordOf 1 = .ok (.lstore_n 1, 1) := by decide +kernel
theorem dX14_wordOf_2 : decode cX14_wordOf 2 = .ok (.iconst 0, 1) := by decide +kernel
theorem dX14_wordOf_3 : decode cX14_wordOf 3 = .ok (.istore_n 3, 1) := by decide +kernel
theorem dX14_wordOf_4 : decode cX14_wordOf 4 = .ok (.iload_n 3, 1) := by decide +kernel
theorem dX14_wordOf_5 : decode cX14_wordOf 5 = .ok (.aload_n 0, 1) := by decide +kernel
theorem dX14_wordOf_6 : decode cX14_wordOf 6 = .ok (.invokevirtual 138, 3) := by decide +kernel
theorem dX14_wordOf_9 : decode cX14_wordOf 9 = .ok (.if_icmp .ge 27, 3) := by decide +kernel
theorem dX14_wordOf_12 : decode cX14_wordOf 12 = .ok (.ldc2_w 144, 3) := by decide +kernel
theorem dX14_wordOf_15 : decode cX14_wordOf 15 = .ok (.lload_n 1, 1) := by decide +kernel
theorem dX14_wordOf_16 : decode cX14_wordOf 16 = .ok (.lmul, 1) := by decide +kernel
theorem dX14_wordOf_17 : decode cX14_wordOf 17 = .ok (.aload_n 0, 1) := by decide +kernel
theorem dX14_wordOf_18 : decode cX14_wordOf 18 = .ok (.iload_n 3, 1) := by decide +kernel
theorem dX14_wordOf_19 : decode cX14_wordOf 19 = .ok (.invokevirtual 146, 3) := by decide +kernel
theorem dX14_wordOf_22 : decode cX14_wordOf 22 = .ok (.bipush 97, 2) := by decide +kernel
theorem dX14_wordOf_24 : decode cX14_wordOf 24 = .ok (.isub, 1) := by decide +kernel
theorem dX14_wordOf_25 : decode cX14_wordOf 25 = .ok (.iconst 1, 1) := by decide +kernel
theorem dX14_wordOf_26 : decode cX14_wordOf 26 = .ok (.iadd, 1) := by decide +kernel
theorem dX14_wordOf_27 : decode cX14_wordOf 27 = .ok (.i2l, 1) := by decide +kernel
theorem dX14_wordOf_28 : decode cX14_wordOf 28 = .ok (.ladd, 1) := by decide +kernel
theorem dX14_wordOf_29 : decode cX14_wordOf 29 = .ok (.lstore_n 1, 1) := by decide +kernel
theorem dX14_wordOf_30 : decode cX14_wordOf 30 = .ok (.iinc 3 1, 3) := by decide +kernel
theorem dX14_wordOf_33 : decode cX14_wordOf 33 = .ok (.goto (-29), 3) := by decide +kernel
theorem dX14_wordOf_36 : decode cX14_wordOf 36 = .ok (.lload_n 1, 1) := by decide +kernel
theorem dX14_wordOf_37 : decode cX14_wordOf 37 = .ok (.lreturn, 1) := by decide +kernel
theorem dX14_next_0 : decode cX14_next 0 = .ok (.aload_n 0, 1) := by decide +kernel
theorem dX14_next_1 : decode cX14_next 1 = .ok (.aload_n 0, 1) := by decide +kernel
theorem dX14_next_2 : decode cX14_next 2 = .ok (.getfield 150, 3) := by decide +kernel
theorem dX14_next_5 : decode cX14_next 5 = .ok (.invokevirtual 153, 3) := by decide +kernel
theorem dX14_next_8 : decode cX14_next 8 = .ok (.bipush 32, 2) := by decide +kernel
theorem dX14_next_10 : decode cX14_next 10 = .ok (.if_icmp .ne 16, 3) := by decide +kernel
theorem dX14_next_13 : decode cX14_next 13 = .ok (.aload_n 0, 1) := by decide +kernel
theorem dX14_next_14 : decode cX14_next 14 = .ok (.dup, 1) := by decide +kernel
theorem dX14_next_15 : decode cX14_next 15 = .ok (.getfield 150, 3) := by decide +kernel
theorem dX14_next_18 : decode cX14_next 18 = .ok (.iconst 1, 1) := by decide +kernel
theorem dX14_next_19 : decode cX14_next 19 = .ok (.iadd, 1) := by decide +kernel
theorem dX14_next_20 : decode cX14_next 20 = .ok (.putfield 150, 3) := by decide +kernel
theorem dX14_next_23 : decode cX14_next 23 = .ok (.goto (-23), 3) := by decide +kernel
theorem dX14_next_26 : decode cX14_next 26 = .ok (.aload_n 0, 1) := by decide +kernel
theorem dX14_next_27 : decode cX14_next 27 = .ok (.aload_n 0, 1) := by decide +kernel
theorem dX14_next_28 : decode cX14_next 28 = .ok (.getfield 150, 3) := by decide +kernel
theorem dX14_next_31 : decode cX14_next 31 = .ok (.putfield 131, 3) := by decide +kernel
theorem dX14_next_34 : decode cX14_next 34 = .ok (.aload_n 0, 1) := by decide +kernel
theorem dX14_next_35 : decode cX14_next 35 = .ok (.iconst 0, 1) := by decide +kernel
theorem dX14_next_36 : decode cX14_next 36 = .ok (.putfield 156, 3) := by decide +kernel
theorem dX14_next_39 : decode cX14_next 39 = .ok (.aload_n 0, 1) := by decide +kernel
theorem dX14_next_40 : decode cX14_next 40 = .ok (.iconst 0, 1) := by decide +kernel
theorem dX14_next_41 : decode cX14_next 41 = .ok (.putfield 159, 3) := by decide +kernel
theorem dX14_next_44 : decode cX14_next 44 = .ok (.aload_n 0, 1) := by decide +kernel
theorem dX14_next_45 : decode cX14_next 45 = .ok (.aload_n 0, 1) := by decide +kernel
theorem dX14_next_46 : decode cX14_next 46 = .ok (.getfield 150, 3) := by decide +kernel
theorem dX14_next_49 : decode cX14_next 49 = .ok (.invokevirtual 153, 3) := by decide +kernel
theorem dX14_next_52 : decode cX14_next 52 = .ok (.istore_n 1, 1) := by decide +kernel
theorem dX14_next_53 : decode cX14_next 53 = .ok (.iconst 0, 1) := by decide +kernel
theorem dX14_next_54 : decode cX14_next 54 = .ok (.istore_n 2, 1) := by decide +kernel
theorem dX14_next_55 : decode cX14_next 55 = .ok (.iload_n 1, 1) := by decide +kernel
theorem dX14_next_56 : decode cX14_next 56 = .ok (.iconst (-1), 1) := by decide +kernel
theorem dX14_next_57 : decode cX14_next 57 = .ok (.if_icmp .ne 11, 3) := by decide +kernel
theorem dX14_next_60 : decode cX14_next 60 = .ok (.aload_n 0, 1) := by decide +kernel
theorem dX14_next_61 : decode cX14_next 61 = .ok (.iconst 1, 1) := by decide +kernel
theorem dX14_next_62 : decode cX14_next 62 = .ok (.putfield 156, 3) := by decide +kernel
theorem dX14_next_65 : decode cX14_next 65 = .ok (.goto 243, 3) := by decide +kernel
theorem dX14_next_68 : decode cX14_next 68 = .ok (.iload_n 1, 1) := by decide +kernel
theorem dX14_next_69 : decode cX14_next 69 = .ok (.invokestatic 162, 3) := by decide +kernel
theorem dX14_next_72 : decode cX14_next 72 = .ok (.ifCond .eq 85, 3) := by decide +kernel
theorem dX14_next_75 : decode cX14_next 75 = .ok (.aload_n 0, 1) := by decide +kernel
theorem dX14_next_76 : decode cX14_next 76 = .ok (.lconst 0, 1) := by decide +kernel
theorem dX14_next_77 : decode cX14_next 77 = .ok (.putfield 166, 3) := by decide +kernel
theorem dX14_next_80 : decode cX14_next 80 = .ok (.aload_n 0, 1) := by decide +kernel
theorem dX14_next_81 : decode cX14_next 81 = .ok (.aload_n 0, 1) := by decide +kernel
theorem dX14_next_82 : decode cX14_next 82 = .ok (.getfield 150, 3) := by decide +kernel
theorem dX14_next_85 : decode cX14_next 85 = .ok (.invokevirtual 153, 3) := by decide +kernel
theorem dX14_next_88 : decode cX14_next 88 = .ok (.invokestatic 162, 3) := by decide +kernel
theorem dX14_next_91 : decode cX14_next 91 = .ok (.ifCond .eq 52, 3) := by decide +kernel
theorem dX14_next_94 : decode cX14_next 94 = .ok (.iload_n 2, 1) := by decide +kernel
theorem dX14_next_95 : decode cX14_next 95 = .ok (.bipush 8, 2) := by decide +kernel
theorem dX14_next_97 : decode cX14_next 97 = .ok (.if_icmp .ge 30, 3) := by decide +kernel
theorem dX14_next_100 : decode cX14_next 100 = .ok (.aload_n 0, 1) := by decide +kernel
theorem dX14_next_101 : decode cX14_next 101 = .ok (.ldc2_w 144, 3) := by decide +kernel
theorem dX14_next_104 : decode cX14_next 104 = .ok (.aload_n 0, 1) := by decide +kernel
theorem dX14_next_105 : decode cX14_next 105 = .ok (.getfield 166, 3) := by decide +kernel
theorem dX14_next_108 : decode cX14_next 108 = .ok (.lmul, 1) := by decide +kernel
theorem dX14_next_109 : decode cX14_next 109 = .ok (.aload_n 0, 1) := by decide +kernel
theorem dX14_next_110 : decode cX14_next 110 = .ok (.aload_n 0, 1) := by decide +kernel
theorem dX14_next_111 : decode cX14_next 111 = .ok (.getfield 150, 3) := by decide +kernel
theorem dX14_next_114 : decode cX14_next 114 = .ok (.invokevirtual 153, 3) := by decide +kernel
theorem dX14_next_117 : decode cX14_next 117 = .ok (.bipush 97, 2) := by decide +kernel
theorem dX14_next_119 : decode cX14_next 119 = .ok (.isub, 1) := by decide +kernel
theorem dX14_next_120 : decode cX14_next 120 = .ok (.iconst 1, 1) := by decide +kernel
theorem dX14_next_121 : decode cX14_next 121 = .ok (.iadd, 1) := by decide +kernel
theorem dX14_next_122 : decode cX14_next 122 = .ok (.i2l, 1) := by decide +kernel
theorem dX14_next_123 : decode cX14_next 123 = .ok (.ladd, 1) := by decide +kernel
theorem dX14_next_124 : decode cX14_next 124 = .ok (.putfield 166, 3) := by decide +kernel
theorem dX14_next_127 : decode cX14_next 127 = .ok (.iinc 2 1, 3) := by decide +kernel
theorem dX14_next_130 : decode cX14_next 130 = .ok (.aload_n 0, 1) := by decide +kernel
theorem dX14_next_131 : decode cX14_next 131 = .ok (.dup, 1) := by decide +kernel
theorem dX14_next_132 : decode cX14_next 132 = .ok (.getfield 150, 3) := by decide +kernel
theorem dX14_next_135 : decode cX14_next 135 = .ok (.iconst 1, 1) := by decide +kernel
theorem dX14_next_136 : decode cX14_next 136 = .ok (.iadd, 1) := by decide +kernel
theorem dX14_next_137 : decode cX14_next 137 = .ok (.putfield 150, 3) := by decide +kernel
theorem dX14_next_140 : decode cX14_next 140 = .ok (.goto (-60), 3) := by decide +kernel
theorem dX14_next_143 : decode cX14_next 143 = .ok (.iload_n 2, 1) := by decide +kernel
theorem dX14_next_144 : decode cX14_next 144 = .ok (.bipush 9, 2) := by decide +kernel
theorem dX14_next_146 : decode cX14_next 146 = .ok (.if_icmp .ge 162, 3) := by decide +kernel
theorem dX14_next_149 : decode cX14_next 149 = .ok (.aload_n 0, 1) := by decide +kernel
theorem dX14_next_150 : decode cX14_next 150 = .ok (.iconst 2, 1) := by decide +kernel
theorem dX14_next_151 : decode cX14_next 151 = .ok (.putfield 156, 3) := by decide +kernel
theorem dX14_next_154 : decode cX14_next 154 = .ok (.goto 154, 3) := by decide +kernel
theorem dX14_next_157 : decode cX14_next 157 = .ok (.iload_n 1, 1) := by decide +kernel
theorem dX14_next_158 : decode cX14_next 158 = .ok (.invokestatic 170, 3) := by decide +kernel
theorem dX14_next_161 : decode cX14_next 161 = .ok (.ifCond .eq 79, 3) := by decide +kernel
theorem dX14_next_164 : decode cX14_next 164 = .ok (.aload_n 0, 1) := by decide +kernel
theorem dX14_next_165 : decode cX14_next 165 = .ok (.iconst 0, 1) := by decide +kernel
theorem dX14_next_166 : decode cX14_next 166 = .ok (.putfield 173, 3) := by decide +kernel
theorem dX14_next_169 : decode cX14_next 169 = .ok (.aload_n 0, 1) := by decide +kernel
theorem dX14_next_170 : decode cX14_next 170 = .ok (.aload_n 0, 1) := by decide +kernel
theorem dX14_next_171 : decode cX14_next 171 = .ok (.getfield 150, 3) := by decide +kernel
theorem dX14_next_174 : decode cX14_next 174 = .ok (.invokevirtual 153, 3) := by decide +kernel
theorem dX14_next_177 : decode cX14_next 177 = .ok (.invokestatic 170, 3) := by decide +kernel
theorem dX14_next_180 : decode cX14_next 180 = .ok (.ifCond .eq 47, 3) := by decide +kernel
theorem dX14_next_183 : decode cX14_next 183 = .ok (.iload_n 2, 1) := by decide +kernel
theorem dX14_next_184 : decode cX14_next 184 = .ok (.iconst 4, 1) := by decide +kernel
theorem dX14_next_185 : decode cX14_next 185 = .ok (.if_icmp .ge 26, 3) := by decide +kernel
theorem dX14_next_188 : decode cX14_next 188 = .ok (.aload_n 0, 1) := by decide +kernel
theorem dX14_next_189 : decode cX14_next 189 = .ok (.bipush 10, 2) := by decide +kernel
theorem dX14_next_191 : decode cX14_next 191 = .ok (.aload_n 0, 1) := by decide +kernel
theorem dX14_next_192 : decode cX14_next 192 = .ok (.getfield 173, 3) := by decide +kernel
theorem dX14_next_195 : decode cX14_next 195 = .ok (.imul, 1) := by decide +kernel
theorem dX14_next_196 : decode cX14_next 196 = .ok (.aload_n 0, 1) := by decide +kernel
theorem dX14_next_197 : decode cX14_next 197 = .ok (.aload_n 0, 1) := by decide +kernel
theorem dX14_next_198 : decode cX14_next 198 = .ok (.getfield 150, 3) := by decide +kernel
theorem dX14_next_201 : decode cX14_next 201 = .ok (.invokevirtual 153, 3) := by decide +kernel
theorem dX14_next_204 : decode cX14_next 204 = .ok (.iadd, 1) := by decide +kernel
theorem dX14_next_205 : decode cX14_next 205 = .ok (.bipush 48, 2) := by decide +kernel
theorem dX14_next_207 : decode cX14_next 207 = .ok (.isub, 1) := by decide +kernel
theorem dX14_next_208 : decode cX14_next 208 = .ok (.putfield 173, 3) := by decide +kernel
theorem dX14_next_211 : decode cX14_next 211 = .ok (.iinc 2 1, 3) := by decide +kernel
theorem dX14_next_214 : decode cX14_next 214 = .ok (.aload_n 0, 1) := by decide +kernel
theorem dX14_next_215 : decode cX14_next 215 = .ok (.dup, 1) := by decide +kernel
theorem dX14_next_216 : decode cX14_next 216 = .ok (.getfield 150, 3) := by decide +kernel
theorem dX14_next_219 : decode cX14_next 219 = .ok (.iconst 1, 1) := by decide +kernel
theorem dX14_next_220 : decode cX14_next 220 = .ok (.iadd, 1) := by decide +kernel
theorem dX14_next_221 : decode cX14_next 221 = .ok (.putfield 150, 3) := by decide +kernel
theorem dX14_next_224 : decode cX14_next 224 = .ok (.goto (-55), 3) := by decide +kernel
theorem dX14_next_227 : decode cX14_next 227 = .ok (.iload_n 2, 1) := by decide +kernel
theorem dX14_next_228 : decode cX14_next 228 = .ok (.iconst 5, 1) := by decide +kernel
theorem dX14_next_229 : decode cX14_next 229 = .ok (.if_icmp .ge 79, 3) := by decide +kernel
theorem dX14_next_232 : decode cX14_next 232 = .ok (.aload_n 0, 1) := by decide +kernel
theorem dX14_next_233 : decode cX14_next 233 = .ok (.iconst 3, 1) := by decide +kernel
theorem dX14_next_234 : decode cX14_next 234 = .ok (.putfield 156, 3) := by decide +kernel
theorem dX14_next_237 : decode cX14_next 237 = .ok (.goto 71, 3) := by decide +kernel
theorem dX14_next_240 : decode cX14_next 240 = .ok (.iload_n 1, 1) := by decide +kernel
theorem dX14_next_241 : decode cX14_next 241 = .ok (.bipush 60, 2) := by decide +kernel
theorem dX14_next_243 : decode cX14_next 243 = .ok (.if_icmp .eq 45, 3) := by decide +kernel
theorem dX14_next_246 : decode cX14_next 246 = .ok (.iload_n 1, 1) := by decide +kernel
theorem dX14_next_247 : decode cX14_next 247 = .ok (.bipush 62, 2) := by decide +kernel
theorem dX14_next_249 : decode cX14_next 249 = .ok (.if_icmp .eq 39, 3) := by decide +kernel
theorem dX14_next_252 : decode cX14_next 252 = .ok (.iload_n 1, 1) := by decide +kernel
theorem dX14_next_253 : decode cX14_next 253 = .ok (.bipush 61, 2) := by decide +kernel
theorem dX14_next_255 : decode cX14_next 255 = .ok (.if_icmp .eq 33, 3) := by decide +kernel
theorem dX14_next_258 : decode cX14_next 258 = .ok (.iload_n 1, 1) := by decide +kernel
theorem dX14_next_259 : decode cX14_next 259 = .ok (.bipush 40, 2) := by decide +kernel
theorem dX14_next_261 : decode cX14_next 261 = .ok (.if_icmp .eq 27, 3) := by decide +kernel
theorem dX14_next_264 : decode cX14_next 264 = .ok (.iload_n 1, 1) := by decide +kernel
theorem dX14_next_265 : decode cX14_next 265 = .ok (.bipush 41, 2) := by decide +kernel
theorem dX14_next_267 : decode cX14_next 267 = .ok (.if_icmp .eq 21, 3) := by decide +kernel
theorem dX14_next_270 : decode cX14_next 270 = .ok (.iload_n 1, 1) := by decide +kernel
theorem dX14_next_271 : decode cX14_next 271 = .ok (.bipush 43, 2) := by decide +kernel
theorem dX14_next_273 : decode cX14_next 273 = .ok (.if_icmp .eq 15, 3) := by decide +kernel
theorem dX14_next_276 : decode cX14_next 276 = .ok (.iload_n 1, 1) := by decide +kernel
theorem dX14_next_277 : decode cX14_next 277 = .ok (.bipush 42, 2) := by decide +kernel
theorem dX14_next_279 : decode cX14_next 279 = .ok (.if_icmp .eq 9, 3) := by decide +kernel
theorem dX14_next_282 : decode cX14_next 282 = .ok (.iload_n 1, 1) := by decide +kernel
theorem dX14_next_283 : decode cX14_next 283 = .ok (.bipush 59, 2) := by decide +kernel
theorem dX14_next_285 : decode cX14_next 285 = .ok (.if_icmp .ne 23, 3) := by decide +kernel
theorem dX14_next_288 : decode cX14_next 288 = .ok (.aload_n 0, 1) := by decide +kernel
theorem dX14_next_289 : decode cX14_next 289 = .ok (.iconst 4, 1) := by decide +kernel
theorem dX14_next_290 : decode cX14_next 290 = .ok (.putfield 156, 3) := by decide +kernel
theorem dX14_next_293 : decode cX14_next 293 = .ok (.aload_n 0, 1) := by decide +kernel
theorem dX14_next_294 : decode cX14_next 294 = .ok (.iload_n 1, 1) := by decide +kernel
theorem dX14_next_295 : decode cX14_next 295 = .ok (.putfield 159, 3) := by decide +kernel
theorem dX14_next_298 : decode cX14_next 298 = .ok (.aload_n 0, 1) := by decide +kernel
theorem dX14_next_299 : decode cX14_next 299 = .ok (.dup, 1) := by decide +kernel
theorem dX14_next_300 : decode cX14_next 300 = .ok (.getfield 150, 3) := by decide +kernel
theorem dX14_next_303 : decode cX14_next 303 = .ok (.iconst 1, 1) := by decide +kernel
theorem dX14_next_304 : decode cX14_next 304 = .ok (.iadd, 1) := by decide +kernel
theorem dX14_next_305 : decode cX14_next 305 = .ok (.putfield 150, 3) := by decide +kernel
theorem dX14_next_308 : decode cX14_next 308 = .ok (.return_, 1) := by decide +kernel
theorem dX14_isWord_0 : decode cX14_isWord 0 = .ok (.aload_n 0, 1) := by decide +kernel
theorem dX14_isWord_1 : decode cX14_isWord 1 = .ok (.getfield 156, 3) := by decide +kernel
theorem dX14_isWord_4 : decode cX14_isWord 4 = .ok (.iconst 2, 1) := by decide +kernel
theorem dX14_isWord_5 : decode cX14_isWord 5 = .ok (.if_icmp .ne 19, 3) := by decide +kernel
theorem dX14_isWord_8 : decode cX14_isWord 8 = .ok (.aload_n 0, 1) := by decide +kernel
theorem dX14_isWord_9 : decode cX14_isWord 9 = .ok (.getfield 166, 3) := by decide +kernel
theorem dX14_isWord_12 : decode cX14_isWord 12 = .ok (.aload_n 1, 1) := by decide +kernel
theorem dX14_isWord_13 : decode cX14_isWord 13 = .ok (.invokestatic 176, 3) := by decide +kernel
end
section
theorem dX14_isWord_16 : decode cX14_isWord 16 = .ok (.lcmp, 1) := by decide +kernel
theorem dX14_isWord_17 : decode cX14_isWord 17 = .ok (.ifCond .ne 7, 3) := by decide +kernel
theorem dX14_isWord_20 : decode cX14_isWord 20 = .ok (.iconst 1, 1) := by decide +kernel
theorem dX14_isWord_21 : decode cX14_isWord 21 = .ok (.goto 4, 3) := by decide +kernel
theorem dX14_isWord_24 : decode cX14_isWord 24 = .ok (.iconst 0, 1) := by decide +kernel
theorem dX14_isWord_25 : decode cX14_isWord 25 = .ok (.ireturn, 1) := by decide +kernel
theorem dX14_is_0 : decode cX14_is 0 = .ok (.aload_n 0, 1) := by decide +kernel
theorem dX14_is_1 : decode cX14_is 1 = .ok (.getfield 156, 3) := by decide +kernel
theorem dX14_is_4 : decode cX14_is 4 = .ok (.iconst 4, 1) := by decide +kernel
theorem dX14_is_5 : decode cX14_is 5 = .ok (.if_icmp .ne 15, 3) := by decide +kernel
theorem dX14_is_8 : decode cX14_is 8 = .ok (.aload_n 0, 1) := by decide +kernel
theorem dX14_is_9 : decode cX14_is 9 = .ok (.getfield 159, 3) := by decide +kernel
theorem dX14_is_12 : decode cX14_is 12 = .ok (.iload_n 1, 1) := by decide +kernel
theorem dX14_is_13 : decode cX14_is 13 = .ok (.if_icmp .ne 7, 3) := by decide +kernel
theorem dX14_is_16 : decode cX14_is 16 = .ok (.iconst 1, 1) := by decide +kernel
theorem dX14_is_17 : decode cX14_is 17 = .ok (.goto 4, 3) := by decide +kernel
theorem dX14_is_20 : decode cX14_is 20 = .ok (.iconst 0, 1) := by decide +kernel
theorem dX14_is_21 : decode cX14_is 21 = .ok (.ireturn, 1) := by decide +kernel
theorem dX14_nameHere_0 : decode cX14_nameHere 0 = .ok (.aload_n 0, 1) := by decide +kernel
theorem dX14_nameHere_1 : decode cX14_nameHere 1 = .ok (.ldc 180, 2) := by decide +kernel
theorem dX14_nameHere_3 : decode cX14_nameHere 3 = .ok (.invokevirtual 182, 3) := by decide +kernel
theorem dX14_nameHere_6 : decode cX14_nameHere 6 = .ok (.ifCond .ne 48, 3) := by decide +kernel
theorem dX14_nameHere_9 : decode cX14_nameHere 9 = .ok (.aload_n 0, 1) := by decide +kernel
theorem dX14_nameHere_10 : decode cX14_nameHere 10 = .ok (.ldc 186, 2) := by decide +kernel
theorem dX14_nameHere_12 : decode cX14_nameHere 12 = .ok (.invokevirtual 182, 3) := by decide +kernel
theorem dX14_nameHere_15 : decode cX14_nameHere 15 = .ok (.ifCond .ne 39, 3) := by decide +kernel
theorem dX14_nameHere_18 : decode cX14_nameHere 18 = .ok (.aload_n 0, 1) := by decide +kernel
theorem dX14_nameHere_19 : decode cX14_nameHere 19 = .ok (.ldc 188, 2) := by decide +kernel
theorem dX14_nameHere_21 : decode cX14_nameHere 21 = .ok (.invokevirtual 182, 3) := by decide +kernel
theorem dX14_nameHere_24 : decode cX14_nameHere 24 = .ok (.ifCond .ne 30, 3) := by decide +kernel
theorem dX14_nameHere_27 : decode cX14_nameHere 27 = .ok (.aload_n 0, 1) := by decide +kernel
theorem dX14_nameHere_28 : decode cX14_nameHere 28 = .ok (.ldc 190, 2) := by decide +kernel
theorem dX14_nameHere_30 : decode cX14_nameHere 30 = .ok (.invokevirtual 182, 3) := by decide +kernel
theorem dX14_nameHere_33 : decode cX14_nameHere 33 = .ok (.ifCond .ne 21, 3) := by decide +kernel
theorem dX14_nameHere_36 : decode cX14_nameHere 36 = .ok (.aload_n 0, 1) := by decide +kernel
theorem dX14_nameHere_37 : decode cX14_nameHere 37 = .ok (.ldc 192, 2) := by decide +kernel
theorem dX14_nameHere_39 : decode cX14_nameHere 39 = .ok (.invokevirtual 182, 3) := by decide +kernel
theorem dX14_nameHere_42 : decode cX14_nameHere 42 = .ok (.ifCond .ne 12, 3) := by decide +kernel
theorem dX14_nameHere_45 : decode cX14_nameHere 45 = .ok (.aload_n 0, 1) := by decide +kernel
theorem dX14_nameHere_46 : decode cX14_nameHere 46 = .ok (.ldc 194, 2) := by decide +kernel
theorem dX14_nameHere_48 : decode cX14_nameHere 48 = .ok (.invokevirtual 182, 3) := by decide +kernel
theorem dX14_nameHere_51 : decode cX14_nameHere 51 = .ok (.ifCond .eq 7, 3) := by decide +kernel
theorem dX14_nameHere_54 : decode cX14_nameHere 54 = .ok (.iconst 1, 1) := by decide +kernel
theorem dX14_nameHere_55 : decode cX14_nameHere 55 = .ok (.goto 4, 3) := by decide +kernel
theorem dX14_nameHere_58 : decode cX14_nameHere 58 = .ok (.iconst 0, 1) := by decide +kernel
theorem dX14_nameHere_59 : decode cX14_nameHere 59 = .ok (.istore_n 1, 1) := by decide +kernel
theorem dX14_nameHere_60 : decode cX14_nameHere 60 = .ok (.aload_n 0, 1) := by decide +kernel
theorem dX14_nameHere_61 : decode cX14_nameHere 61 = .ok (.getfield 156, 3) := by decide +kernel
theorem dX14_nameHere_64 : decode cX14_nameHere 64 = .ok (.iconst 2, 1) := by decide +kernel
theorem dX14_nameHere_65 : decode cX14_nameHere 65 = .ok (.if_icmp .ne 7, 3) := by decide +kernel
theorem dX14_nameHere_68 : decode cX14_nameHere 68 = .ok (.iload_n 1, 1) := by decide +kernel
theorem dX14_nameHere_69 : decode cX14_nameHere 69 = .ok (.ifCond .eq 9, 3) := by decide +kernel
theorem dX14_nameHere_72 : decode cX14_nameHere 72 = .ok (.aload_n 0, 1) := by decide +kernel
theorem dX14_nameHere_73 : decode cX14_nameHere 73 = .ok (.iconst 1, 1) := by decide +kernel
theorem dX14_nameHere_74 : decode cX14_nameHere 74 = .ok (.invokevirtual 196, 3) := by decide +kernel
theorem dX14_nameHere_77 : decode cX14_nameHere 77 = .ok (.athrow, 1) := by decide +kernel
theorem dX14_nameHere_78 : decode cX14_nameHere 78 = .ok (.aload_n 0, 1) := by decide +kernel
theorem dX14_nameHere_79 : decode cX14_nameHere 79 = .ok (.ldc 199, 2) := by decide +kernel
theorem dX14_nameHere_81 : decode cX14_nameHere 81 = .ok (.invokevirtual 182, 3) := by decide +kernel
theorem dX14_nameHere_84 : decode cX14_nameHere 84 = .ok (.ifCond .eq 7, 3) := by decide +kernel
theorem dX14_nameHere_87 : decode cX14_nameHere 87 = .ok (.iconst 0, 1) := by decide +kernel
theorem dX14_nameHere_88 : decode cX14_nameHere 88 = .ok (.goto 56, 3) := by decide +kernel
theorem dX14_nameHere_91 : decode cX14_nameHere 91 = .ok (.aload_n 0, 1) := by decide +kernel
theorem dX14_nameHere_92 : decode cX14_nameHere 92 = .ok (.ldc 201, 2) := by decide +kernel
theorem dX14_nameHere_94 : decode cX14_nameHere 94 = .ok (.invokevirtual 182, 3) := by decide +kernel
theorem dX14_nameHere_97 : decode cX14_nameHere 97 = .ok (.ifCond .eq 7, 3) := by decide +kernel
theorem dX14_nameHere_100 : decode cX14_nameHere 100 = .ok (.iconst 1, 1) := by decide +kernel
theorem dX14_nameHere_101 : decode cX14_nameHere 101 = .ok (.goto 43, 3) := by decide +kernel
theorem dX14_nameHere_104 : decode cX14_nameHere 104 = .ok (.aload_n 0, 1) := by decide +kernel
theorem dX14_nameHere_105 : decode cX14_nameHere 105 = .ok (.ldc 203, 2) := by decide +kernel
theorem dX14_nameHere_107 : decode cX14_nameHere 107 = .ok (.invokevirtual 182, 3) := by decide +kernel
theorem dX14_nameHere_110 : decode cX14_nameHere 110 = .ok (.ifCond .eq 7, 3) := by decide +kernel
theorem dX14_nameHere_113 : decode cX14_nameHere 113 = .ok (.iconst 2, 1) := by decide +kernel
theorem dX14_nameHere_114 : decode cX14_nameHere 114 = .ok (.goto 30, 3) := by decide +kernel
theorem dX14_nameHere_117 : decode cX14_nameHere 117 = .ok (.aload_n 0, 1) := by decide +kernel
theorem dX14_nameHere_118 : decode cX14_nameHere 118 = .ok (.ldc 205, 2) := by decide +kernel
theorem dX14_nameHere_120 : decode cX14_nameHere 120 = .ok (.invokevirtual 182, 3) := by decide +kernel
theorem dX14_nameHere_123 : decode cX14_nameHere 123 = .ok (.ifCond .eq 7, 3) := by decide +kernel
theorem dX14_nameHere_126 : decode cX14_nameHere 126 = .ok (.iconst 3, 1) := by decide +kernel
theorem dX14_nameHere_127 : decode cX14_nameHere 127 = .ok (.goto 17, 3) := by decide +kernel
theorem dX14_nameHere_130 : decode cX14_nameHere 130 = .ok (.aload_n 0, 1) := by decide +kernel
theorem dX14_nameHere_131 : decode cX14_nameHere 131 = .ok (.ldc 206, 2) := by decide +kernel
theorem dX14_nameHere_133 : decode cX14_nameHere 133 = .ok (.invokevirtual 182, 3) := by decide +kernel
theorem dX14_nameHere_136 : decode cX14_nameHere 136 = .ok (.ifCond .eq 7, 3) := by decide +kernel
theorem dX14_nameHere_139 : decode cX14_nameHere 139 = .ok (.iconst 4, 1) := by decide +kernel
theorem dX14_nameHere_140 : decode cX14_nameHere 140 = .ok (.goto 4, 3) := by decide +kernel
theorem dX14_nameHere_143 : decode cX14_nameHere 143 = .ok (.iconst (-1), 1) := by decide +kernel
theorem dX14_nameHere_144 : decode cX14_nameHere 144 = .ok (.istore_n 2, 1) := by decide +kernel
theorem dX14_nameHere_145 : decode cX14_nameHere 145 = .ok (.iload_n 2, 1) := by decide +kernel
theorem dX14_nameHere_146 : decode cX14_nameHere 146 = .ok (.iconst (-1), 1) := by decide +kernel
theorem dX14_nameHere_147 : decode cX14_nameHere 147 = .ok (.if_icmp .ne 9, 3) := by decide +kernel
theorem dX14_nameHere_150 : decode cX14_nameHere 150 = .ok (.aload_n 0, 1) := by decide +kernel
theorem dX14_nameHere_151 : decode cX14_nameHere 151 = .ok (.iconst 2, 1) := by decide +kernel
theorem dX14_nameHere_152 : decode cX14_nameHere 152 = .ok (.invokevirtual 196, 3) := by decide +kernel
theorem dX14_nameHere_155 : decode cX14_nameHere 155 = .ok (.athrow, 1) := by decide +kernel
theorem dX14_nameHere_156 : decode cX14_nameHere 156 = .ok (.iload_n 2, 1) := by decide +kernel
theorem dX14_nameHere_157 : decode cX14_nameHere 157 = .ok (.ireturn, 1) := by decide +kernel
theorem dX14_reads_0 : decode cX14_reads 0 = .ok (.aload_n 1, 1) := by decide +kernel
theorem dX14_reads_1 : decode cX14_reads 1 = .ok (.iconst 0, 1) := by decide +kernel
theorem dX14_reads_2 : decode cX14_reads 2 = .ok (.putfield 208, 3) := by decide +kernel
theorem dX14_reads_5 : decode cX14_reads 5 = .ok (.aload_n 1, 1) := by decide +kernel
theorem dX14_reads_6 : decode cX14_reads 6 = .ok (.iconst 0, 1) := by decide +kernel
theorem dX14_reads_7 : decode cX14_reads 7 = .ok (.putfield 211, 3) := by decide +kernel
theorem dX14_reads_10 : decode cX14_reads 10 = .ok (.aload_n 0, 1) := by decide +kernel
theorem dX14_reads_11 : decode cX14_reads 11 = .ok (.iconst 0, 1) := by decide +kernel
theorem dX14_reads_12 : decode cX14_reads 12 = .ok (.putfield 214, 3) := by decide +kernel
theorem dX14_reads_15 : decode cX14_reads 15 = .ok (.aload_n 0, 1) := by decide +kernel
theorem dX14_reads_16 : decode cX14_reads 16 = .ok (.iconst 0, 1) := by decide +kernel
theorem dX14_reads_17 : decode cX14_reads 17 = .ok (.putfield 217, 3) := by decide +kernel
theorem dX14_reads_20 : decode cX14_reads 20 = .ok (.aload_n 0, 1) := by decide +kernel
theorem dX14_reads_21 : decode cX14_reads 21 = .ok (.invokevirtual 220, 3) := by decide +kernel
theorem dX14_reads_24 : decode cX14_reads 24 = .ok (.iconst 1, 1) := by decide +kernel
theorem dX14_reads_25 : decode cX14_reads 25 = .ok (.istore_n 2, 1) := by decide +kernel
theorem dX14_reads_26 : decode cX14_reads 26 = .ok (.iload_n 2, 1) := by decide +kernel
theorem dX14_reads_27 : decode cX14_reads 27 = .ok (.ifCond .eq 228, 3) := by decide +kernel
theorem dX14_reads_30 : decode cX14_reads 30 = .ok (.aload_n 0, 1) := by decide +kernel
theorem dX14_reads_31 : decode cX14_reads 31 = .ok (.ldc 180, 2) := by decide +kernel
theorem dX14_reads_33 : decode cX14_reads 33 = .ok (.invokevirtual 182, 3) := by decide +kernel
theorem dX14_reads_36 : decode cX14_reads 36 = .ok (.ifCond .eq 7, 3) := by decide +kernel
theorem dX14_reads_39 : decode cX14_reads 39 = .ok (.iconst 0, 1) := by decide +kernel
theorem dX14_reads_40 : decode cX14_reads 40 = .ok (.goto 30, 3) := by decide +kernel
theorem dX14_reads_43 : decode cX14_reads 43 = .ok (.aload_n 0, 1) := by decide +kernel
theorem dX14_reads_44 : decode cX14_reads 44 = .ok (.ldc 186, 2) := by decide +kernel
theorem dX14_reads_46 : decode cX14_reads 46 = .ok (.invokevirtual 182, 3) := by decide +kernel
theorem dX14_reads_49 : decode cX14_reads 49 = .ok (.ifCond .eq 7, 3) := by decide +kernel
theorem dX14_reads_52 : decode cX14_reads 52 = .ok (.iconst 1, 1) := by decide +kernel
theorem dX14_reads_53 : decode cX14_reads 53 = .ok (.goto 17, 3) := by decide +kernel
theorem dX14_reads_56 : decode cX14_reads 56 = .ok (.aload_n 0, 1) := by decide +kernel
theorem dX14_reads_57 : decode cX14_reads 57 = .ok (.ldc 188, 2) := by decide +kernel
theorem dX14_reads_59 : decode cX14_reads 59 = .ok (.invokevirtual 182, 3) := by decide +kernel
theorem dX14_reads_62 : decode cX14_reads 62 = .ok (.ifCond .eq 7, 3) := by decide +kernel
theorem dX14_reads_65 : decode cX14_reads 65 = .ok (.iconst 2, 1) := by decide +kernel
theorem dX14_reads_66 : decode cX14_reads 66 = .ok (.goto 4, 3) := by decide +kernel
theorem dX14_reads_69 : decode cX14_reads 69 = .ok (.iconst (-1), 1) := by decide +kernel
theorem dX14_reads_70 : decode cX14_reads 70 = .ok (.istore_n 3, 1) := by decide +kernel
theorem dX14_reads_71 : decode cX14_reads 71 = .ok (.iload_n 3, 1) := by decide +kernel
theorem dX14_reads_72 : decode cX14_reads 72 = .ok (.iconst (-1), 1) := by decide +kernel
theorem dX14_reads_73 : decode cX14_reads 73 = .ok (.if_icmp .ne 9, 3) := by decide +kernel
theorem dX14_reads_76 : decode cX14_reads 76 = .ok (.aload_n 0, 1) := by decide +kernel
theorem dX14_reads_77 : decode cX14_reads 77 = .ok (.iconst 1, 1) := by decide +kernel
theorem dX14_reads_78 : decode cX14_reads 78 = .ok (.invokevirtual 196, 3) := by decide +kernel
theorem dX14_reads_81 : decode cX14_reads 81 = .ok (.athrow, 1) := by decide +kernel
theorem dX14_reads_82 : decode cX14_reads 82 = .ok (.aload_n 1, 1) := by decide +kernel
theorem dX14_reads_83 : decode cX14_reads 83 = .ok (.getfield 208, 3) := by decide +kernel
theorem dX14_reads_86 : decode cX14_reads 86 = .ok (.bipush 12, 2) := by decide +kernel
theorem dX14_reads_88 : decode cX14_reads 88 = .ok (.if_icmp .ne 9, 3) := by decide +kernel
theorem dX14_reads_91 : decode cX14_reads 91 = .ok (.aload_n 0, 1) := by decide +kernel
theorem dX14_reads_92 : decode cX14_reads 92 = .ok (.iconst 4, 1) := by decide +kernel
theorem dX14_reads_93 : decode cX14_reads 93 = .ok (.invokevirtual 196, 3) := by decide +kernel
theorem dX14_reads_96 : decode cX14_reads 96 = .ok (.athrow, 1) := by decide +kernel
theorem dX14_reads_97 : decode cX14_reads 97 = .ok (.aload_n 1, 1) := by decide +kernel
theorem dX14_reads_98 : decode cX14_reads 98 = .ok (.getfield 208, 3) := by decide +kernel
theorem dX14_reads_101 : decode cX14_reads 101 = .ok (.istore 4, 2) := by decide +kernel
theorem dX14_reads_103 : decode cX14_reads 103 = .ok (.aload_n 1, 1) := by decide +kernel
theorem dX14_reads_104 : decode cX14_reads 104 = .ok (.getfield 223, 3) := by decide +kernel
theorem dX14_reads_107 : decode cX14_reads 107 = .ok (.iload 4, 2) := by decide +kernel
theorem dX14_reads_109 : decode cX14_reads 109 = .ok (.iload_n 3, 1) := by decide +kernel
theorem dX14_reads_110 : decode cX14_reads 110 = .ok (.iastore, 1) := by decide +kernel
theorem dX14_reads_111 : decode cX14_reads 111 = .ok (.aload_n 1, 1) := by decide +kernel
theorem dX14_reads_112 : decode cX14_reads 112 = .ok (.getfield 226, 3) := by decide +kernel
theorem dX14_reads_115 : decode cX14_reads 115 = .ok (.iload 4, 2) := by decide +kernel
theorem dX14_reads_117 : decode cX14_reads 117 = .ok (.iconst 0, 1) := by decide +kernel
theorem dX14_reads_118 : decode cX14_reads 118 = .ok (.iastore, 1) := by decide +kernel
theorem dX14_reads_119 : decode cX14_reads 119 = .ok (.aload_n 1, 1) := by decide +kernel
theorem dX14_reads_120 : decode cX14_reads 120 = .ok (.getfield 228, 3) := by decide +kernel
theorem dX14_reads_123 : decode cX14_reads 123 = .ok (.iload 4, 2) := by decide +kernel
theorem dX14_reads_125 : decode cX14_reads 125 = .ok (.iconst 0, 1) := by decide +kernel
theorem dX14_reads_126 : decode cX14_reads 126 = .ok (.iastore, 1) := by decide +kernel
theorem dX14_reads_127 : decode cX14_reads 127 = .ok (.aload_n 0, 1) := by decide +kernel
theorem dX14_reads_128 : decode cX14_reads 128 = .ok (.invokevirtual 220, 3) := by decide +kernel
theorem dX14_reads_131 : decode cX14_reads 131 = .ok (.iload_n 3, 1) := by decide +kernel
theorem dX14_reads_132 : decode cX14_reads 132 = .ok (.iconst 2, 1) := by decide +kernel
theorem dX14_reads_133 : decode cX14_reads 133 = .ok (.if_icmp .eq 51, 3) := by decide +kernel
theorem dX14_reads_136 : decode cX14_reads 136 = .ok (.aload_n 0, 1) := by decide +kernel
theorem dX14_reads_137 : decode cX14_reads 137 = .ok (.getfield 156, 3) := by decide +kernel
theorem dX14_reads_140 : decode cX14_reads 140 = .ok (.iconst 3, 1) := by decide +kernel
theorem dX14_reads_141 : decode cX14_reads 141 = .ok (.if_icmp .eq 9, 3) := by decide +kernel
theorem dX14_reads_144 : decode cX14_reads 144 = .ok (.aload_n 0, 1) := by decide +kernel
theorem dX14_reads_145 : decode cX14_reads 145 = .ok (.iconst 1, 1) := by decide +kernel
theorem dX14_reads_146 : decode cX14_reads 146 = .ok (.invokevirtual 196, 3) := by decide +kernel
theorem dX14_reads_149 : decode cX14_reads 149 = .ok (.athrow, 1) := by decide +kernel
theorem dX14_reads_150 : decode cX14_reads 150 = .ok (.aload_n 0, 1) := by decide +kernel
theorem dX14_reads_151 : decode cX14_reads 151 = .ok (.getfield 173, 3) := by decide +kernel
theorem dX14_reads_154 : decode cX14_reads 154 = .ok (.iconst 1, 1) := by decide +kernel
theorem dX14_reads_155 : decode cX14_reads 155 = .ok (.bipush 12, 2) := by decide +kernel
theorem dX14_reads_157 : decode cX14_reads 157 = .ok (.invokestatic 231, 3) := by decide +kernel
theorem dX14_reads_160 : decode cX14_reads 160 = .ok (.ifCond .ne 9, 3) := by decide +kernel
theorem dX14_reads_163 : decode cX14_reads 163 = .ok (.aload_n 0, 1) := by decide +kernel
theorem dX14_reads_164 : decode cX14_reads 164 = .ok (.iconst 3, 1) := by decide +kernel
theorem dX14_reads_165 : decode cX14_reads 165 = .ok (.invokevirtual 196, 3) := by decide +kernel
theorem dX14_reads_168 : decode cX14_reads 168 = .ok (.athrow, 1) := by decide +kernel
theorem dX14_reads_169 : decode cX14_reads 169 = .ok (.aload_n 1, 1) := by decide +kernel
theorem dX14_reads_170 : decode cX14_reads 170 = .ok (.getfield 226, 3) := by decide +kernel
theorem dX14_reads_173 : decode cX14_reads 173 = .ok (.iload 4, 2) := by decide +kernel
theorem dX14_reads_175 : decode cX14_reads 175 = .ok (.aload_n 0, 1) := by decide +kernel
theorem dX14_reads_176 : decode cX14_reads 176 = .ok (.getfield 173, 3) := by decide +kernel
theorem dX14_reads_179 : decode cX14_reads 179 = .ok (.iastore, 1) := by decide +kernel
theorem dX14_reads_180 : decode cX14_reads 180 = .ok (.aload_n 0, 1) := by decide +kernel
theorem dX14_reads_181 : decode cX14_reads 181 = .ok (.invokevirtual 220, 3) := by decide +kernel
theorem dX14_reads_184 : decode cX14_reads 184 = .ok (.aload_n 1, 1) := by decide +kernel
theorem dX14_reads_185 : decode cX14_reads 185 = .ok (.getfield 235, 3) := by decide +kernel
theorem dX14_reads_188 : decode cX14_reads 188 = .ok (.iload 4, 2) := by decide +kernel
theorem dX14_reads_190 : decode cX14_reads 190 = .ok (.aload_n 1, 1) := by decide +kernel
theorem dX14_reads_191 : decode cX14_reads 191 = .ok (.getfield 211, 3) := by decide +kernel
theorem dX14_reads_194 : decode cX14_reads 194 = .ok (.iastore, 1) := by decide +kernel
theorem dX14_reads_195 : decode cX14_reads 195 = .ok (.iload_n 3, 1) := by decide +kernel
theorem dX14_reads_196 : decode cX14_reads 196 = .ok (.ifCond .ne 8, 3) := by decide +kernel
theorem dX14_reads_199 : decode cX14_reads 199 = .ok (.aload_n 0, 1) := by decide +kernel
theorem dX14_reads_200 : decode cX14_reads 200 = .ok (.aload_n 1, 1) := by decide +kernel
theorem dX14_reads_201 : decode cX14_reads 201 = .ok (.invokevirtual 238, 3) := by decide +kernel
theorem dX14_reads_204 : decode cX14_reads 204 = .ok (.aload_n 1, 1) := by decide +kernel
theorem dX14_reads_205 : decode cX14_reads 205 = .ok (.getfield 242, 3) := by decide +kernel
theorem dX14_reads_208 : decode cX14_reads 208 = .ok (.iload 4, 2) := by decide +kernel
theorem dX14_reads_210 : decode cX14_reads 210 = .ok (.aload_n 1, 1) := by decide +kernel
theorem dX14_reads_211 : decode cX14_reads 211 = .ok (.getfield 211, 3) := by decide +kernel
theorem dX14_reads_214 : decode cX14_reads 214 = .ok (.iastore, 1) := by decide +kernel
theorem dX14_reads_215 : decode cX14_reads 215 = .ok (.iload_n 3, 1) := by decide +kernel
theorem dX14_reads_216 : decode cX14_reads 216 = .ok (.iconst 2, 1) := by decide +kernel
theorem dX14_reads_217 : decode cX14_reads 217 = .ok (.if_icmp .ne 10, 3) := by decide +kernel
theorem dX14_reads_220 : decode cX14_reads 220 = .ok (.aload_n 0, 1) := by decide +kernel
theorem dX14_reads_221 : decode cX14_reads 221 = .ok (.aload_n 1, 1) := by decide +kernel
theorem dX14_reads_222 : decode cX14_reads 222 = .ok (.iload 4, 2) := by decide +kernel
theorem dX14_reads_224 : decode cX14_reads 224 = .ok (.invokevirtual 245, 3) := by decide +kernel
theorem dX14_reads_227 : decode cX14_reads 227 = .ok (.aload_n 1, 1) := by decide +kernel
theorem dX14_reads_228 : decode cX14_reads 228 = .ok (.dup, 1) := by decide +kernel
theorem dX14_reads_229 : decode cX14_reads 229 = .ok (.getfield 208, 3) := by decide +kernel
theorem dX14_reads_232 : decode cX14_reads 232 = .ok (.iconst 1, 1) := by decide +kernel
theorem dX14_reads_233 : decode cX14_reads 233 = .ok (.iadd, 1) := by decide +kernel
theorem dX14_reads_234 : decode cX14_reads 234 = .ok (.putfield 208, 3) := by decide +kernel
theorem dX14_reads_237 : decode cX14_reads 237 = .ok (.aload_n 0, 1) := by decide +kernel
theorem dX14_reads_238 : decode cX14_reads 238 = .ok (.bipush 59, 2) := by decide +kernel
theorem dX14_reads_240 : decode cX14_reads 240 = .ok (.invokevirtual 249, 3) := by decide +kernel
theorem dX14_reads_243 : decode cX14_reads 243 = .ok (.istore_n 2, 1) := by decide +kernel
theorem dX14_reads_244 : decode cX14_reads 244 = .ok (.iload_n 2, 1) := by decide +kernel
theorem dX14_reads_245 : decode cX14_reads 245 = .ok (.ifCond .eq 7, 3) := by decide +kernel
theorem dX14_reads_248 : decode cX14_reads 248 = .ok (.aload_n 0, 1) := by decide +kernel
theorem dX14_reads_249 : decode cX14_reads 249 = .ok (.invokevirtual 220, 3) := by decide +kernel
theorem dX14_reads_252 : decode cX14_reads 252 = .ok (.goto (-226), 3) := by decide +kernel
theorem dX14_reads_255 : decode cX14_reads 255 = .ok (.aload_n 0, 1) := by decide +kernel
theorem dX14_reads_256 : decode cX14_reads 256 = .ok (.getfield 156, 3) := by decide +kernel
theorem dX14_reads_259 : decode cX14_reads 259 = .ok (.iconst 1, 1) := by decide +kernel
theorem dX14_reads_260 : decode cX14_reads 260 = .ok (.if_icmp .eq 9, 3) := by decide +kernel
theorem dX14_reads_263 : decode cX14_reads 263 = .ok (.aload_n 0, 1) := by decide +kernel
theorem dX14_reads_264 : decode cX14_reads 264 = .ok (.iconst 1, 1) := by decide +kernel
theorem dX14_reads_265 : decode cX14_reads 265 = .ok (.invokevirtual 196, 3) := by decide +kernel
theorem dX14_reads_268 : decode cX14_reads 268 = .ok (.athrow, 1) := by decide +kernel
theorem dX14_reads_269 : decode cX14_reads 269 = .ok (.return_, 1) := by decide +kernel
theorem dX14_readAny_0 : decode cX14_readAny 0 = .ok (.aload_n 0, 1) := by decide +kernel
theorem dX14_readAny_1 : decode cX14_readAny 1 = .ok (.aload_n 1, 1) := by decide +kernel
theorem dX14_readAny_2 : decode cX14_readAny 2 = .ok (.invokevirtual 252, 3) := by decide +kernel
theorem dX14_readAny_5 : decode cX14_readAny 5 = .ok (.aload_n 0, 1) := by decide +kernel
theorem dX14_readAny_6 : decode cX14_readAny 6 = .ok (.ldc 190, 2) := by decide +kernel
theorem dX14_readAny_8 : decode cX14_readAny 8 = .ok (.invokevirtual 182, 3) := by decide +kernel
theorem dX14_readAny_11 : decode cX14_readAny 11 = .ok (.ifCond .eq 22, 3) := by decide +kernel
theorem dX14_readAny_14 : decode cX14_readAny 14 = .ok (.aload_n 0, 1) := by decide +kernel
theorem dX14_readAny_15 : decode cX14_readAny 15 = .ok (.invokevirtual 220, 3) := by decide +kernel
theorem dX14_readAny_18 : decode cX14_readAny 18 = .ok (.aload_n 0, 1) := by decide +kernel
theorem dX14_readAny_19 : decode cX14_readAny 19 = .ok (.aload_n 1, 1) := by decide +kernel
theorem dX14_readAny_20 : decode cX14_readAny 20 = .ok (.invokevirtual 252, 3) := by decide +kernel
theorem dX14_readAny_23 : decode cX14_readAny 23 = .ok (.aload_n 1, 1) := by decide +kernel
theorem dX14_readAny_24 : decode cX14_readAny 24 = .ok (.iconst 5, 1) := by decide +kernel
theorem dX14_readAny_25 : decode cX14_readAny 25 = .ok (.iconst 0, 1) := by decide +kernel
theorem dX14_readAny_26 : decode cX14_readAny 26 = .ok (.iconst 0, 1) := by decide +kernel
theorem dX14_readAny_27 : decode cX14_readAny 27 = .ok (.invokevirtual 255, 3) := by decide +kernel
theorem dX14_readAny_30 : decode cX14_readAny 30 = .ok (.goto (-25), 3) := by decide +kernel
theorem dX14_readAny_33 : decode cX14_readAny 33 = .ok (.return_, 1) := by decide +kernel
theorem dX14_readAll_0 : decode cX14_readAll 0 = .ok (.aload_n 0, 1) := by decide +kernel
theorem dX14_readAll_1 : decode cX14_readAll 1 = .ok (.aload_n 1, 1) := by decide +kernel
theorem dX14_readAll_2 : decode cX14_readAll 2 = .ok (.invokevirtual 258, 3) := by decide +kernel
theorem dX14_readAll_5 : decode cX14_readAll 5 = .ok (.aload_n 0, 1) := by decide +kernel
theorem dX14_readAll_6 : decode cX14_readAll 6 = .ok (.ldc 192, 2) := by decide +kernel
theorem dX14_readAll_8 : decode cX14_readAll 8 = .ok (.invokevirtual 182, 3) := by decide +kernel
theorem dX14_readAll_11 : decode cX14_readAll 11 = .ok (.ifCond .eq 22, 3) := by decide +kernel
theorem dX14_readAll_14 : decode cX14_readAll 14 = .ok (.aload_n 0, 1) := by decide +kernel
theorem dX14_readAll_15 : decode cX14_readAll 15 = .ok (.invokevirtual 220, 3) := by decide +kernel
theorem dX14_readAll_18 : decode cX14_readAll 18 = .ok (.aload_n 0, 1) := by decide +kernel
theorem dX14_readAll_19 : decode cX14_readAll 19 = .ok (.aload_n 1, 1) := by decide +kernel
theorem dX14_readAll_20 : decode cX14_readAll 20 = .ok (.invokevirtual 258, 3) := by decide +kernel
theorem dX14_readAll_23 : decode cX14_readAll 23 = .ok (.aload_n 1, 1) := by decide +kernel
theorem dX14_readAll_24 : decode cX14_readAll 24 = .ok (.iconst 4, 1) := by decide +kernel
theorem dX14_readAll_25 : decode cX14_readAll 25 = .ok (.iconst 0, 1) := by decide +kernel
theorem dX14_readAll_26 : decode cX14_readAll 26 = .ok (.iconst 0, 1) := by decide +kernel
theorem dX14_readAll_27 : decode cX14_readAll 27 = .ok (.invokevirtual 255, 3) := by decide +kernel
theorem dX14_readAll_30 : decode cX14_readAll 30 = .ok (.goto (-25), 3) := by decide +kernel
theorem dX14_readAll_33 : decode cX14_readAll 33 = .ok (.return_, 1) := by decide +kernel
theorem dX14_readOne_0 : decode cX14_readOne 0 = .ok (.iconst 0, 1) := by decide +kernel
theorem dX14_readOne_1 : decode cX14_readOne 1 = .ok (.istore_n 2, 1) := by decide +kernel
theorem dX14_readOne_2 : decode cX14_readOne 2 = .ok (.aload_n 0, 1) := by decide +kernel
theorem dX14_readOne_3 : decode cX14_readOne 3 = .ok (.ldc 194, 2) := by decide +kernel
theorem dX14_readOne_5 : decode cX14_readOne 5 = .ok (.invokevirtual 182, 3) := by decide +kernel
theorem dX14_readOne_8 : decode cX14_readOne 8 = .ok (.ifCond .eq 25, 3) := by decide +kernel
theorem dX14_readOne_11 : decode cX14_readOne 11 = .ok (.iload_n 2, 1) := by decide +kernel
theorem dX14_readOne_12 : decode cX14_readOne 12 = .ok (.bipush 8, 2) := by decide +kernel
theorem dX14_readOne_14 : decode cX14_readOne 14 = .ok (.if_icmp .ne 9, 3) := by decide +kernel
theorem dX14_readOne_17 : decode cX14_readOne 17 = .ok (.aload_n 0, 1) := by decide +kernel
theorem dX14_readOne_18 : decode cX14_readOne 18 = .ok (.iconst 4, 1) := by decide +kernel
theorem dX14_readOne_19 : decode cX14_readOne 19 = .ok (.invokevirtual 196, 3) := by decide +kernel
theorem dX14_readOne_22 : decode cX14_readOne 22 = .ok (.athrow, 1) := by decide +kernel
theorem dX14_readOne_23 : decode cX14_readOne 23 = .ok (.iinc 2 1, 3) := by decide +kernel
theorem dX14_readOne_26 : decode cX14_readOne 26 = .ok (.aload_n 0, 1) := by decide +kernel
theorem dX14_readOne_27 : decode cX14_readOne 27 = .ok (.invokevirtual 220, 3) := by decide +kernel
theorem dX14_readOne_30 : decode cX14_readOne 30 = .ok (.goto (-28), 3) := by decide +kernel
theorem dX14_readOne_33 : decode cX14_readOne 33 = .ok (.aload_n 0, 1) := by decide +kernel
theorem dX14_readOne_34 : decode cX14_readOne 34 = .ok (.bipush 40, 2) := by decide +kernel
theorem dX14_readOne_36 : decode cX14_readOne 36 = .ok (.invokevirtual 249, 3) := by decide +kernel
theorem dX14_readOne_39 : decode cX14_readOne 39 = .ok (.ifCond .eq 69, 3) := by decide +kernel
theorem dX14_readOne_42 : decode cX14_readOne 42 = .ok (.aload_n 0, 1) := by decide +kernel
theorem dX14_readOne_43 : decode cX14_readOne 43 = .ok (.getfield 214, 3) := by decide +kernel
theorem dX14_readOne_46 : decode cX14_readOne 46 = .ok (.bipush 8, 2) := by decide +kernel
theorem dX14_readOne_48 : decode cX14_readOne 48 = .ok (.if_icmp .ne 9, 3) := by decide +kernel
theorem dX14_readOne_51 : decode cX14_readOne 51 = .ok (.aload_n 0, 1) := by decide +kernel
theorem dX14_readOne_52 : decode cX14_readOne 52 = .ok (.iconst 4, 1) := by decide +kernel
theorem dX14_readOne_53 : decode cX14_readOne 53 = .ok (.invokevirtual 196, 3) := by decide +kernel
theorem dX14_readOne_56 : decode cX14_readOne 56 = .ok (.athrow, 1) := by decide +kernel
theorem dX14_readOne_57 : decode cX14_readOne 57 = .ok (.aload_n 0, 1) := by decide +kernel
theorem dX14_readOne_58 : decode cX14_readOne 58 = .ok (.dup, 1) := by decide +kernel
theorem dX14_readOne_59 : decode cX14_readOne 59 = .ok (.getfield 214, 3) := by decide +kernel
theorem dX14_readOne_62 : decode cX14_readOne 62 = .ok (.iconst 1, 1) := by decide +kernel
theorem dX14_readOne_63 : decode cX14_readOne 63 = .ok (.iadd, 1) := by decide +kernel
theorem dX14_readOne_64 : decode cX14_readOne 64 = .ok (.putfield 214, 3) := by decide +kernel
theorem dX14_readOne_67 : decode cX14_readOne 67 = .ok (.aload_n 0, 1) := by decide +kernel
theorem dX14_readOne_68 : decode cX14_readOne 68 = .ok (.invokevirtual 220, 3) := by decide +kernel
theorem dX14_readOne_71 : decode cX14_readOne 71 = .ok (.aload_n 0, 1) := by decide +kernel
theorem dX14_readOne_72 : decode cX14_readOne 72 = .ok (.aload_n 1, 1) := by decide +kernel
theorem dX14_readOne_73 : decode cX14_readOne 73 = .ok (.invokevirtual 238, 3) := by decide +kernel
theorem dX14_readOne_76 : decode cX14_readOne 76 = .ok (.aload_n 0, 1) := by decide +kernel
theorem dX14_readOne_77 : decode cX14_readOne 77 = .ok (.bipush 41, 2) := by decide +kernel
theorem dX14_readOne_79 : decode cX14_readOne 79 = .ok (.invokevirtual 249, 3) := by decide +kernel
theorem dX14_readOne_82 : decode cX14_readOne 82 = .ok (.ifCond .ne 9, 3) := by decide +kernel
theorem dX14_readOne_85 : decode cX14_readOne 85 = .ok (.aload_n 0, 1) := by decide +kernel
theorem dX14_readOne_86 : decode cX14_readOne 86 = .ok (.iconst 1, 1) := by decide +kernel
theorem dX14_readOne_87 : decode cX14_readOne 87 = .ok (.invokevirtual 196, 3) := by decide +kernel
theorem dX14_readOne_90 : decode cX14_readOne 90 = .ok (.athrow, 1) := by decide +kernel
theorem dX14_readOne_91 : decode cX14_readOne 91 = .ok (.aload_n 0, 1) := by decide +kernel
theorem dX14_readOne_92 : decode cX14_readOne 92 = .ok (.invokevirtual 220, 3) := by decide +kernel
theorem dX14_readOne_95 : decode cX14_readOne 95 = .ok (.aload_n 0, 1) := by decide +kernel
theorem dX14_readOne_96 : decode cX14_readOne 96 = .ok (.dup, 1) := by decide +kernel
theorem dX14_readOne_97 : decode cX14_readOne 97 = .ok (.getfield 214, 3) := by decide +kernel
theorem dX14_readOne_100 : decode cX14_readOne 100 = .ok (.iconst 1, 1) := by decide +kernel
theorem dX14_readOne_101 : decode cX14_readOne 101 = .ok (.isub, 1) := by decide +kernel
theorem dX14_readOne_102 : decode cX14_readOne 102 = .ok (.putfield 214, 3) := by decide +kernel
theorem dX14_readOne_105 : decode cX14_readOne 105 = .ok (.goto 124, 3) := by decide +kernel
theorem dX14_readOne_108 : decode cX14_readOne 108 = .ok (.aload_n 0, 1) := by decide +kernel
theorem dX14_readOne_109 : decode cX14_readOne 109 = .ok (.invokevirtual 261, 3) := by decide +kernel
theorem dX14_readOne_112 : decode cX14_readOne 112 = .ok (.istore_n 3, 1) := by decide +kernel
theorem dX14_readOne_113 : decode cX14_readOne 113 = .ok (.aload_n 0, 1) := by decide +kernel
theorem dX14_readOne_114 : decode cX14_readOne 114 = .ok (.getfield 217, 3) := by decide +kernel
theorem dX14_readOne_117 : decode cX14_readOne 117 = .ok (.bipush 20, 2) := by decide +kernel
theorem dX14_readOne_119 : decode cX14_readOne 119 = .ok (.if_icmp .ne 9, 3) := by decide +kernel
theorem dX14_readOne_122 : decode cX14_readOne 122 = .ok (.aload_n 0, 1) := by decide +kernel
theorem dX14_readOne_123 : decode cX14_readOne 123 = .ok (.iconst 4, 1) := by decide +kernel
theorem dX14_readOne_124 : decode cX14_readOne 124 = .ok (.invokevirtual 196, 3) := by decide +kernel
theorem dX14_readOne_127 : decode cX14_readOne 127 = .ok (.athrow, 1) := by decide +kernel
theorem dX14_readOne_128 : decode cX14_readOne 128 = .ok (.aload_n 0, 1) := by decide +kernel
theorem dX14_readOne_129 : decode cX14_readOne 129 = .ok (.dup, 1) := by decide +kernel
theorem dX14_readOne_130 : decode cX14_readOne 130 = .ok (.getfield 217, 3) := by decide +kernel
theorem dX14_readOne_133 : decode cX14_readOne 133 = .ok (.iconst 1, 1) := by decide +kernel
theorem dX14_readOne_134 : decode cX14_readOne 134 = .ok (.iadd, 1) := by decide +kernel
theorem dX14_readOne_135 : decode cX14_readOne 135 = .ok (.putfield 217, 3) := by decide +kernel
theorem dX14_readOne_138 : decode cX14_readOne 138 = .ok (.aload_n 0, 1) := by decide +kernel
theorem dX14_readOne_139 : decode cX14_readOne 139 = .ok (.invokevirtual 220, 3) := by decide +kernel
theorem dX14_readOne_142 : decode cX14_readOne 142 = .ok (.aload_n 0, 1) := by decide +kernel
theorem dX14_readOne_143 : decode cX14_readOne 143 = .ok (.bipush 60, 2) := by decide +kernel
theorem dX14_readOne_145 : decode cX14_readOne 145 = .ok (.invokevirtual 249, 3) := by decide +kernel
theorem dX14_readOne_148 : decode cX14_readOne 148 = .ok (.ifCond .eq 7, 3) := by decide +kernel
theorem dX14_readOne_151 : decode cX14_readOne 151 = .ok (.iconst 0, 1) := by decide +kernel
theorem dX14_readOne_152 : decode cX14_readOne 152 = .ok (.goto 30, 3) := by decide +kernel
theorem dX14_readOne_155 : decode cX14_readOne 155 = .ok (.aload_n 0, 1) := by decide +kernel
theorem dX14_readOne_156 : decode cX14_readOne 156 = .ok (.bipush 62, 2) := by decide +kernel
theorem dX14_readOne_158 : decode cX14_readOne 158 = .ok (.invokevirtual 249, 3) := by decide +kernel
theorem dX14_readOne_161 : decode cX14_readOne 161 = .ok (.ifCond .eq 7, 3) := by decide +kernel
theorem dX14_readOne_164 : decode cX14_readOne 164 = .ok (.iconst 1, 1) := by decide +kernel
theorem dX14_readOne_165 : decode cX14_readOne 165 = .ok (.goto 17, 3) := by decide +kernel
theorem dX14_readOne_168 : decode cX14_readOne 168 = .ok (.aload_n 0, 1) := by decide +kernel
theorem dX14_readOne_169 : decode cX14_readOne 169 = .ok (.bipush 61, 2) := by decide +kernel
theorem dX14_readOne_171 : decode cX14_readOne 171 = .ok (.invokevirtual 249, 3) := by decide +kernel
theorem dX14_readOne_174 : decode cX14_readOne 174 = .ok (.ifCond .eq 7, 3) := by decide +kernel
theorem dX14_readOne_177 : decode cX14_readOne 177 = .ok (.iconst 2, 1) := by decide +kernel
theorem dX14_readOne_178 : decode cX14_readOne 178 = .ok (.goto 4, 3) := by decide +kernel
theorem dX14_readOne_181 : decode cX14_readOne 181 = .ok (.iconst (-1), 1) := by decide +kernel
theorem dX14_readOne_182 : decode cX14_readOne 182 = .ok (.istore 4, 2) := by decide +kernel
theorem dX14_readOne_184 : decode cX14_readOne 184 = .ok (.iload 4, 2) := by decide +kernel
theorem dX14_readOne_186 : decode cX14_readOne 186 = .ok (.iconst (-1), 1) := by decide +kernel
theorem dX14_readOne_187 : decode cX14_readOne 187 = .ok (.if_icmp .ne 9, 3) := by decide +kernel
theorem dX14_readOne_190 : decode cX14_readOne 190 = .ok (.aload_n 0, 1) := by decide +kernel
theorem dX14_readOne_191 : decode cX14_readOne 191 = .ok (.iconst 1, 1) := by decide +kernel
theorem dX14_readOne_192 : decode cX14_readOne 192 = .ok (.invokevirtual 196, 3) := by decide +kernel
theorem dX14_readOne_195 : decode cX14_readOne 195 = .ok (.athrow, 1) := by decide +kernel
theorem dX14_readOne_196 : decode cX14_readOne 196 = .ok (.aload_n 0, 1) := by decide +kernel
theorem dX14_readOne_197 : decode cX14_readOne 197 = .ok (.invokevirtual 220, 3) := by decide +kernel
theorem dX14_readOne_200 : decode cX14_readOne 200 = .ok (.aload_n 0, 1) := by decide +kernel
theorem dX14_readOne_201 : decode cX14_readOne 201 = .ok (.getfield 156, 3) := by decide +kernel
theorem dX14_readOne_204 : decode cX14_readOne 204 = .ok (.iconst 3, 1) := by decide +kernel
theorem dX14_readOne_205 : decode cX14_readOne 205 = .ok (.if_icmp .eq 9, 3) := by decide +kernel
theorem dX14_readOne_208 : decode cX14_readOne 208 = .ok (.aload_n 0, 1) := by decide +kernel
theorem dX14_readOne_209 : decode cX14_readOne 209 = .ok (.iconst 1, 1) := by decide +kernel
theorem dX14_readOne_210 : decode cX14_readOne 210 = .ok (.invokevirtual 196, 3) := by decide +kernel
theorem dX14_readOne_213 : decode cX14_readOne 213 = .ok (.athrow, 1) := by decide +kernel
theorem dX14_readOne_214 : decode cX14_readOne 214 = .ok (.aload_n 1, 1) := by decide +kernel
theorem dX14_readOne_215 : decode cX14_readOne 215 = .ok (.iload 4, 2) := by decide +kernel
theorem dX14_readOne_217 : decode cX14_readOne 217 = .ok (.iload_n 3, 1) := by decide +kernel
theorem dX14_readOne_218 : decode cX14_readOne 218 = .ok (.aload_n 0, 1) := by decide +kernel
theorem dX14_readOne_219 : decode cX14_readOne 219 = .ok (.getfield 173, 3) := by decide +kernel
theorem dX14_readOne_222 : decode cX14_readOne 222 = .ok (.invokevirtual 255, 3) := by decide +kernel
theorem dX14_readOne_225 : decode cX14_readOne 225 = .ok (.aload_n 0, 1) := by decide +kernel
theorem dX14_readOne_226 : decode cX14_readOne 226 = .ok (.invokevirtual 220, 3) := by decide +kernel
theorem dX14_readOne_229 : decode cX14_readOne 229 = .ok (.iload_n 2, 1) := by decide +kernel
theorem dX14_readOne_230 : decode cX14_readOne 230 = .ok (.iconst 2, 1) := by decide +kernel
theorem dX14_readOne_231 : decode cX14_readOne 231 = .ok (.irem, 1) := by decide +kernel
theorem dX14_readOne_232 : decode cX14_readOne 232 = .ok (.iconst 1, 1) := by decide +kernel
theorem dX14_readOne_233 : decode cX14_readOne 233 = .ok (.if_icmp .ne 10, 3) := by decide +kernel
theorem dX14_readOne_236 : decode cX14_readOne 236 = .ok (.aload_n 1, 1) := by decide +kernel
theorem dX14_readOne_237 : decode cX14_readOne 237 = .ok (.iconst 3, 1) := by decide +kernel
theorem dX14_readOne_238 : decode cX14_readOne 238 = .ok (.iconst 0, 1) := by decide +kernel
theorem dX14_readOne_239 : decode cX14_readOne 239 = .ok (.iconst 0, 1) := by decide +kernel
theorem dX14_readOne_240 : decode cX14_readOne 240 = .ok (.invokevirtual 255, 3) := by decide +kernel
theorem dX14_readOne_243 : decode cX14_readOne 243 = .ok (.return_, 1) := by decide +kernel
theorem dX14_readSum_0 : decode cX14_readSum 0 = .ok (.iconst 1, 1) := by decide +kernel
theorem dX14_readSum_1 : decode cX14_readSum 1 = .ok (.istore_n 3, 1) := by decide +kernel
theorem dX14_readSum_2 : decode cX14_readSum 2 = .ok (.iload_n 3, 1) := by decide +kernel
theorem dX14_readSum_3 : decode cX14_readSum 3 = .ok (.ifCond .eq 147, 3) := by decide +kernel
theorem dX14_readSum_6 : decode cX14_readSum 6 = .ok (.aload_n 0, 1) := by decide +kernel
theorem dX14_readSum_7 : decode cX14_readSum 7 = .ok (.getfield 156, 3) := by decide +kernel
theorem dX14_readSum_10 : decode cX14_readSum 10 = .ok (.iconst 3, 1) := by decide +kernel
theorem dX14_readSum_11 : decode cX14_readSum 11 = .ok (.if_icmp .ne 7, 3) := by decide +kernel
theorem dX14_readSum_14 : decode cX14_readSum 14 = .ok (.iconst (-1), 1) := by decide +kernel
theorem dX14_readSum_15 : decode cX14_readSum 15 = .ok (.goto 7, 3) := by decide +kernel
theorem dX14_readSum_18 : decode cX14_readSum 18 = .ok (.aload_n 0, 1) := by decide +kernel
theorem dX14_readSum_19 : decode cX14_readSum 19 = .ok (.invokevirtual 261, 3) := by decide +kernel
theorem dX14_readSum_22 : decode cX14_readSum 22 = .ok (.istore 4, 2) := by decide +kernel
theorem dX14_readSum_24 : decode cX14_readSum 24 = .ok (.aload_n 1, 1) := by decide +kernel
theorem dX14_readSum_25 : decode cX14_readSum 25 = .ok (.getfield 228, 3) := by decide +kernel
theorem dX14_readSum_28 : decode cX14_readSum 28 = .ok (.iload_n 2, 1) := by decide +kernel
theorem dX14_readSum_29 : decode cX14_readSum 29 = .ok (.iaload, 1) := by decide +kernel
theorem dX14_readSum_30 : decode cX14_readSum 30 = .ok (.iconst 4, 1) := by decide +kernel
theorem dX14_readSum_31 : decode cX14_readSum 31 = .ok (.if_icmp .ne 9, 3) := by decide +kernel
theorem dX14_readSum_34 : decode cX14_readSum 34 = .ok (.aload_n 0, 1) := by decide +kernel
theorem dX14_readSum_35 : decode cX14_readSum 35 = .ok (.iconst 4, 1) := by decide +kernel
theorem dX14_readSum_36 : decode cX14_readSum 36 = .ok (.invokevirtual 196, 3) := by decide +kernel
theorem dX14_readSum_39 : decode cX14_readSum 39 = .ok (.athrow, 1) := by decide +kernel
theorem dX14_readSum_40 : decode cX14_readSum 40 = .ok (.iconst 4, 1) := by decide +kernel
theorem dX14_readSum_41 : decode cX14_readSum 41 = .ok (.iload_n 2, 1) := by decide +kernel
theorem dX14_readSum_42 : decode cX14_readSum 42 = .ok (.imul, 1) := by decide +kernel
theorem dX14_readSum_43 : decode cX14_readSum 43 = .ok (.aload_n 1, 1) := by decide +kernel
theorem dX14_readSum_44 : decode cX14_readSum 44 = .ok (.getfield 228, 3) := by decide +kernel
theorem dX14_readSum_47 : decode cX14_readSum 47 = .ok (.iload_n 2, 1) := by decide +kernel
theorem dX14_readSum_48 : decode cX14_readSum 48 = .ok (.iaload, 1) := by decide +kernel
theorem dX14_readSum_49 : decode cX14_readSum 49 = .ok (.iadd, 1) := by decide +kernel
theorem dX14_readSum_50 : decode cX14_readSum 50 = .ok (.istore 5, 2) := by decide +kernel
theorem dX14_readSum_52 : decode cX14_readSum 52 = .ok (.aload_n 1, 1) := by decide +kernel
theorem dX14_readSum_53 : decode cX14_readSum 53 = .ok (.getfield 264, 3) := by decide +kernel
theorem dX14_readSum_56 : decode cX14_readSum 56 = .ok (.iload 5, 2) := by decide +kernel
theorem dX14_readSum_58 : decode cX14_readSum 58 = .ok (.aload_n 0, 1) := by decide +kernel
theorem dX14_readSum_59 : decode cX14_readSum 59 = .ok (.getfield 156, 3) := by decide +kernel
theorem dX14_readSum_62 : decode cX14_readSum 62 = .ok (.iconst 3, 1) := by decide +kernel
theorem dX14_readSum_63 : decode cX14_readSum 63 = .ok (.if_icmp .ne 10, 3) := by decide +kernel
theorem dX14_readSum_66 : decode cX14_readSum 66 = .ok (.aload_n 0, 1) := by decide +kernel
theorem dX14_readSum_67 : decode cX14_readSum 67 = .ok (.getfield 173, 3) := by decide +kernel
theorem dX14_readSum_70 : decode cX14_readSum 70 = .ok (.goto 4, 3) := by decide +kernel
theorem dX14_readSum_73 : decode cX14_readSum 73 = .ok (.iconst 1, 1) := by decide +kernel
theorem dX14_readSum_74 : decode cX14_readSum 74 = .ok (.iastore, 1) := by decide +kernel
theorem dX14_readSum_75 : decode cX14_readSum 75 = .ok (.aload_n 1, 1) := by decide +kernel
theorem dX14_readSum_76 : decode cX14_readSum 76 = .ok (.getfield 267, 3) := by decide +kernel
theorem dX14_readSum_79 : decode cX14_readSum 79 = .ok (.iload 5, 2) := by decide +kernel
theorem dX14_readSum_81 : decode cX14_readSum 81 = .ok (.iload 4, 2) := by decide +kernel
theorem dX14_readSum_83 : decode cX14_readSum 83 = .ok (.iastore, 1) := by decide +kernel
theorem dX14_readSum_84 : decode cX14_readSum 84 = .ok (.aload_n 0, 1) := by decide +kernel
theorem dX14_readSum_85 : decode cX14_readSum 85 = .ok (.invokevirtual 220, 3) := by decide +kernel
theorem dX14_readSum_88 : decode cX14_readSum 88 = .ok (.iload 4, 2) := by decide +kernel
theorem dX14_readSum_90 : decode cX14_readSum 90 = .ok (.iconst (-1), 1) := by decide +kernel
theorem dX14_readSum_91 : decode cX14_readSum 91 = .ok (.if_icmp .ne 31, 3) := by decide +kernel
theorem dX14_readSum_94 : decode cX14_readSum 94 = .ok (.aload_n 0, 1) := by decide +kernel
theorem dX14_readSum_95 : decode cX14_readSum 95 = .ok (.bipush 42, 2) := by decide +kernel
theorem dX14_readSum_97 : decode cX14_readSum 97 = .ok (.invokevirtual 249, 3) := by decide +kernel
theorem dX14_readSum_100 : decode cX14_readSum 100 = .ok (.ifCond .eq 22, 3) := by decide +kernel
theorem dX14_readSum_103 : decode cX14_readSum 103 = .ok (.aload_n 0, 1) := by decide +kernel
theorem dX14_readSum_104 : decode cX14_readSum 104 = .ok (.invokevirtual 220, 3) := by decide +kernel
theorem dX14_readSum_107 : decode cX14_readSum 107 = .ok (.aload_n 1, 1) := by decide +kernel
theorem dX14_readSum_108 : decode cX14_readSum 108 = .ok (.getfield 267, 3) := by decide +kernel
theorem dX14_readSum_111 : decode cX14_readSum 111 = .ok (.iload 5, 2) := by decide +kernel
theorem dX14_readSum_113 : decode cX14_readSum 113 = .ok (.aload_n 0, 1) := by decide +kernel
theorem dX14_readSum_114 : decode cX14_readSum 114 = .ok (.invokevirtual 261, 3) := by decide +kernel
theorem dX14_readSum_117 : decode cX14_readSum 117 = .ok (.iastore, 1) := by decide +kernel
theorem dX14_readSum_118 : decode cX14_readSum 118 = .ok (.aload_n 0, 1) := by decide +kernel
theorem dX14_readSum_119 : decode cX14_readSum 119 = .ok (.invokevirtual 220, 3) := by decide +kernel
theorem dX14_readSum_122 : decode cX14_readSum 122 = .ok (.aload_n 1, 1) := by decide +kernel
theorem dX14_readSum_123 : decode cX14_readSum 123 = .ok (.getfield 228, 3) := by decide +kernel
theorem dX14_readSum_126 : decode cX14_readSum 126 = .ok (.iload_n 2, 1) := by decide +kernel
theorem dX14_readSum_127 : decode cX14_readSum 127 = .ok (.dup2, 1) := by decide +kernel
theorem dX14_readSum_128 : decode cX14_readSum 128 = .ok (.iaload, 1) := by decide +kernel
theorem dX14_readSum_129 : decode cX14_readSum 129 = .ok (.iconst 1, 1) := by decide +kernel
theorem dX14_readSum_130 : decode cX14_readSum 130 = .ok (.iadd, 1) := by decide +kernel
theorem dX14_readSum_131 : decode cX14_readSum 131 = .ok (.iastore, 1) := by decide +kernel
theorem dX14_readSum_132 : decode cX14_readSum 132 = .ok (.aload_n 0, 1) := by decide +kernel
theorem dX14_readSum_133 : decode cX14_readSum 133 = .ok (.bipush 43, 2) := by decide +kernel
theorem dX14_readSum_135 : decode cX14_readSum 135 = .ok (.invokevirtual 249, 3) := by decide +kernel
theorem dX14_readSum_138 : decode cX14_readSum 138 = .ok (.istore_n 3, 1) := by decide +kernel
theorem dX14_readSum_139 : decode cX14_readSum 139 = .ok (.iload_n 3, 1) := by decide +kernel
theorem dX14_readSum_140 : decode cX14_readSum 140 = .ok (.ifCond .eq 7, 3) := by decide +kernel
theorem dX14_readSum_143 : decode cX14_readSum 143 = .ok (.aload_n 0, 1) := by decide +kernel
theorem dX14_readSum_144 : decode cX14_readSum 144 = .ok (.invokevirtual 220, 3) := by decide +kernel
theorem dX14_readSum_147 : decode cX14_readSum 147 = .ok (.goto (-145), 3) := by decide +kernel
theorem dX14_readSum_150 : decode cX14_readSum 150 = .ok (.return_, 1) := by decide +kernel
theorem dX14_feed_0 : decode cX14_feed 0 = .ok (.aload_n 0, 1) := by decide +kernel
theorem dX14_feed_1 : decode cX14_feed 1 = .ok (.iconst 0, 1) := by decide +kernel
theorem dX14_feed_2 : decode cX14_feed 2 = .ok (.putfield 112, 3) := by decide +kernel
theorem dX14_feed_5 : decode cX14_feed 5 = .ok (.aload_n 0, 1) := by decide +kernel
theorem dX14_feed_6 : decode cX14_feed 6 = .ok (.getfield 270, 3) := by decide +kernel
theorem dX14_feed_9 : decode cX14_feed 9 = .ok (.bipush 20, 2) := by decide +kernel
theorem dX14_feed_11 : decode cX14_feed 11 = .ok (.iadd, 1) := by decide +kernel
theorem dX14_feed_12 : decode cX14_feed 12 = .ok (.sipush 300, 3) := by decide +kernel
theorem dX14_feed_15 : decode cX14_feed 15 = .ok (.if_icmp .le 5, 3) := by decide +kernel
theorem dX14_feed_18 : decode cX14_feed 18 = .ok (.iconst (-1), 1) := by decide +kernel
theorem dX14_feed_19 : decode cX14_feed 19 = .ok (.ireturn, 1) := by decide +kernel
theorem dX14_feed_20 : decode cX14_feed 20 = .ok (.iconst 0, 1) := by decide +kernel
theorem dX14_feed_21 : decode cX14_feed 21 = .ok (.istore 6, 2) := by decide +kernel
theorem dX14_feed_23 : decode cX14_feed 23 = .ok (.iload 6, 2) := by decide +kernel
theorem dX14_feed_25 : decode cX14_feed 25 = .ok (.bipush 20, 2) := by decide +kernel
theorem dX14_feed_27 : decode cX14_feed 27 = .ok (.if_icmp .ge 90, 3) := by decide +kernel
theorem dX14_feed_30 : decode cX14_feed 30 = .ok (.iload 6, 2) := by decide +kernel
theorem dX14_feed_32 : decode cX14_feed 32 = .ok (.iconst 4, 1) := by decide +kernel
theorem dX14_feed_33 : decode cX14_feed 33 = .ok (.if_icmp .ge 7, 3) := by decide +kernel
theorem dX14_feed_36 : decode cX14_feed 36 = .ok (.iload_n 1, 1) := by decide +kernel
theorem dX14_feed_37 : decode cX14_feed 37 = .ok (.goto 39, 3) := by decide +kernel
theorem dX14_feed_40 : decode cX14_feed 40 = .ok (.iload 6, 2) := by decide +kernel
theorem dX14_feed_42 : decode cX14_feed 42 = .ok (.bipush 8, 2) := by decide +kernel
theorem dX14_feed_44 : decode cX14_feed 44 = .ok (.if_icmp .ge 7, 3) := by decide +kernel
theorem dX14_feed_47 : decode cX14_feed 47 = .ok (.iload_n 2, 1) := by decide +kernel
theorem dX14_feed_48 : decode cX14_feed 48 = .ok (.goto 28, 3) := by decide +kernel
theorem dX14_feed_51 : decode cX14_feed 51 = .ok (.iload 6, 2) := by decide +kernel
theorem dX14_feed_53 : decode cX14_feed 53 = .ok (.bipush 12, 2) := by decide +kernel
theorem dX14_feed_55 : decode cX14_feed 55 = .ok (.if_icmp .ge 7, 3) := by decide +kernel
theorem dX14_feed_58 : decode cX14_feed 58 = .ok (.iload_n 3, 1) := by decide +kernel
theorem dX14_feed_59 : decode cX14_feed 59 = .ok (.goto 17, 3) := by decide +kernel
theorem dX14_feed_62 : decode cX14_feed 62 = .ok (.iload 6, 2) := by decide +kernel
theorem dX14_feed_64 : decode cX14_feed 64 = .ok (.bipush 16, 2) := by decide +kernel
theorem dX14_feed_66 : decode cX14_feed 66 = .ok (.if_icmp .ge 8, 3) := by decide +kernel
theorem dX14_feed_69 : decode cX14_feed 69 = .ok (.iload 4, 2) := by decide +kernel
theorem dX14_feed_71 : decode cX14_feed 71 = .ok (.goto 5, 3) := by decide +kernel
theorem dX14_feed_74 : decode cX14_feed 74 = .ok (.iload 5, 2) := by decide +kernel
theorem dX14_feed_76 : decode cX14_feed 76 = .ok (.istore 7, 2) := by decide +kernel
theorem dX14_feed_78 : decode cX14_feed 78 = .ok (.aload_n 0, 1) := by decide +kernel
theorem dX14_feed_79 : decode cX14_feed 79 = .ok (.getfield 31, 3) := by decide +kernel
theorem dX14_feed_82 : decode cX14_feed 82 = .ok (.aload_n 0, 1) := by decide +kernel
theorem dX14_feed_83 : decode cX14_feed 83 = .ok (.getfield 270, 3) := by decide +kernel
theorem dX14_feed_86 : decode cX14_feed 86 = .ok (.iload 7, 2) := by decide +kernel
theorem dX14_feed_88 : decode cX14_feed 88 = .ok (.bipush 24, 2) := by decide +kernel
theorem dX14_feed_90 : decode cX14_feed 90 = .ok (.bipush 8, 2) := by decide +kernel
theorem dX14_feed_92 : decode cX14_feed 92 = .ok (.iload 6, 2) := by decide +kernel
theorem dX14_feed_94 : decode cX14_feed 94 = .ok (.iconst 4, 1) := by decide +kernel
theorem dX14_feed_95 : decode cX14_feed 95 = .ok (.irem, 1) := by decide +kernel
theorem dX14_feed_96 : decode cX14_feed 96 = .ok (.imul, 1) := by decide +kernel
theorem dX14_feed_97 : decode cX14_feed 97 = .ok (.isub, 1) := by decide +kernel
theorem dX14_feed_98 : decode cX14_feed 98 = .ok (.ishr, 1) := by decide +kernel
theorem dX14_feed_99 : decode cX14_feed 99 = .ok (.i2b, 1) := by decide +kernel
theorem dX14_feed_100 : decode cX14_feed 100 = .ok (.bastore, 1) := by decide +kernel
theorem dX14_feed_101 : decode cX14_feed 101 = .ok (.aload_n 0, 1) := by decide +kernel
theorem dX14_feed_102 : decode cX14_feed 102 = .ok (.dup, 1) := by decide +kernel
theorem dX14_feed_103 : decode cX14_feed 103 = .ok (.getfield 270, 3) := by decide +kernel
theorem dX14_feed_106 : decode cX14_feed 106 = .ok (.iconst 1, 1) := by decide +kernel
theorem dX14_feed_107 : decode cX14_feed 107 = .ok (.iadd, 1) := by decide +kernel
theorem dX14_feed_108 : decode cX14_feed 108 = .ok (.putfield 270, 3) := by decide +kernel
theorem dX14_feed_111 : decode cX14_feed 111 = .ok (.iinc 6 1, 3) := by decide +kernel
theorem dX14_feed_114 : decode cX14_feed 114 = .ok (.goto (-91), 3) := by decide +kernel
theorem dX14_feed_117 : decode cX14_feed 117 = .ok (.aload_n 0, 1) := by decide +kernel
theorem dX14_feed_118 : decode cX14_feed 118 = .ok (.getfield 270, 3) := by decide +kernel
theorem dX14_feed_121 : decode cX14_feed 121 = .ok (.ireturn, 1) := by decide +kernel
theorem dX14_isDay_0 : decode cX14_isDay 0 = .ok (.iload_n 0, 1) := by decide +kernel
theorem dX14_isDay_1 : decode cX14_isDay 1 = .ok (.iconst 0, 1) := by decide +kernel
theorem dX14_isDay_2 : decode cX14_isDay 2 = .ok (.ldc_w 273, 3) := by decide +kernel
theorem dX14_isDay_5 : decode cX14_isDay 5 = .ok (.invokestatic 231, 3) := by decide +kernel
theorem dX14_isDay_8 : decode cX14_isDay 8 = .ok (.ireturn, 1) := by decide +kernel
theorem dX14_isWill_0 : decode cX14_isWill 0 = .ok (.iload_n 1, 1) := by decide +kernel
theorem dX14_isWill_1 : decode cX14_isWill 1 = .ok (.ifCond .lt 15, 3) := by decide +kernel
theorem dX14_isWill_4 : decode cX14_isWill 4 = .ok (.iload_n 1, 1) := by decide +kernel
theorem dX14_isWill_5 : decode cX14_isWill 5 = .ok (.aload_n 0, 1) := by decide +kernel
theorem dX14_isWill_6 : decode cX14_isWill 6 = .ok (.getfield 118, 3) := by decide +kernel
theorem dX14_isWill_9 : decode cX14_isWill 9 = .ok (.if_icmp .ge 7, 3) := by decide +kernel
theorem dX14_isWill_12 : decode cX14_isWill 12 = .ok (.iconst 1, 1) := by decide +kernel
theorem dX14_isWill_13 : decode cX14_isWill 13 = .ok (.goto 4, 3) := by decide +kernel
theorem dX14_isWill_16 : decode cX14_isWill 16 = .ok (.iconst 0, 1) := by decide +kernel
theorem dX14_isWill_17 : decode cX14_isWill 17 = .ok (.ireturn, 1) := by decide +kernel
theorem dX14_scheme_0 : decode cX14_scheme 0 = .ok (.aload_n 0, 1) := by decide +kernel
theorem dX14_scheme_1 : decode cX14_scheme 1 = .ok (.iconst 0, 1) := by decide +kernel
theorem dX14_scheme_2 : decode cX14_scheme 2 = .ok (.putfield 112, 3) := by decide +kernel
theorem dX14_scheme_5 : decode cX14_scheme 5 = .ok (.aload_n 0, 1) := by decide +kernel
theorem dX14_scheme_6 : decode cX14_scheme 6 = .ok (.iload_n 1, 1) := by decide +kernel
theorem dX14_scheme_7 : decode cX14_scheme 7 = .ok (.invokevirtual 274, 3) := by decide +kernel
theorem dX14_scheme_10 : decode cX14_scheme 10 = .ok (.ifCond .ne 9, 3) := by decide +kernel
theorem dX14_scheme_13 : decode cX14_scheme 13 = .ok (.aload_n 0, 1) := by decide +kernel
theorem dX14_scheme_14 : decode cX14_scheme 14 = .ok (.iconst 1, 1) := by decide +kernel
theorem dX14_scheme_15 : decode cX14_scheme 15 = .ok (.invokevirtual 121, 3) := by decide +kernel
theorem dX14_scheme_18 : decode cX14_scheme 18 = .ok (.ireturn, 1) := by decide +kernel
theorem dX14_scheme_19 : decode cX14_scheme 19 = .ok (.iload_n 2, 1) := by decide +kernel
theorem dX14_scheme_20 : decode cX14_scheme 20 = .ok (.invokestatic 277, 3) := by decide +kernel
theorem dX14_scheme_23 : decode cX14_scheme 23 = .ok (.ifCond .eq 15, 3) := by decide +kernel
theorem dX14_scheme_26 : decode cX14_scheme 26 = .ok (.iload_n 3, 1) := by decide +kernel
theorem dX14_scheme_27 : decode cX14_scheme 27 = .ok (.ifCond .lt 11, 3) := by decide +kernel
theorem dX14_scheme_30 : decode cX14_scheme 30 = .ok (.iload_n 3, 1) := by decide +kernel
theorem dX14_scheme_31 : decode cX14_scheme 31 = .ok (.aload_n 0, 1) := by decide +kernel
theorem dX14_scheme_32 : decode cX14_scheme 32 = .ok (.getfield 270, 3) := by decide +kernel
theorem dX14_scheme_35 : decode cX14_scheme 35 = .ok (.if_icmp .le 9, 3) := by decide +kernel
theorem dX14_scheme_38 : decode cX14_scheme 38 = .ok (.aload_n 0, 1) := by decide +kernel
theorem dX14_scheme_39 : decode cX14_scheme 39 = .ok (.iconst 2, 1) := by decide +kernel
theorem dX14_scheme_40 : decode cX14_scheme 40 = .ok (.invokevirtual 121, 3) := by decide +kernel
theorem dX14_scheme_43 : decode cX14_scheme 43 = .ok (.ireturn, 1) := by decide +kernel
theorem dX14_scheme_44 : decode cX14_scheme 44 = .ok (.aload_n 0, 1) := by decide +kernel
theorem dX14_scheme_45 : decode cX14_scheme 45 = .ok (.iload_n 3, 1) := by decide +kernel
theorem dX14_scheme_46 : decode cX14_scheme 46 = .ok (.putfield 135, 3) := by decide +kernel
theorem dX14_scheme_49 : decode cX14_scheme 49 = .ok (.aload_n 0, 1) := by decide +kernel
theorem dX14_scheme_50 : decode cX14_scheme 50 = .ok (.iconst 0, 1) := by decide +kernel
theorem dX14_scheme_51 : decode cX14_scheme 51 = .ok (.putfield 270, 3) := by decide +kernel
theorem dX14_scheme_54 : decode cX14_scheme 54 = .ok (.aload_n 0, 1) := by decide +kernel
theorem dX14_scheme_55 : decode cX14_scheme 55 = .ok (.iconst 0, 1) := by decide +kernel
theorem dX14_scheme_56 : decode cX14_scheme 56 = .ok (.putfield 150, 3) := by decide +kernel
theorem dX14_scheme_59 : decode cX14_scheme 59 = .ok (.aload_n 0, 1) := by decide +kernel
theorem dX14_scheme_60 : decode cX14_scheme 60 = .ok (.iconst 0, 1) := by decide +kernel
theorem dX14_scheme_61 : decode cX14_scheme 61 = .ok (.putfield 280, 3) := by decide +kernel
theorem dX14_scheme_64 : decode cX14_scheme 64 = .ok (.aload_n 0, 1) := by decide +kernel
theorem dX14_scheme_65 : decode cX14_scheme 65 = .ok (.getfield 283, 3) := by decide +kernel
theorem dX14_scheme_68 : decode cX14_scheme 68 = .ok (.bipush 40, 2) := by decide +kernel
theorem dX14_scheme_70 : decode cX14_scheme 70 = .ok (.if_icmp .ne 10, 3) := by decide +kernel
theorem dX14_scheme_73 : decode cX14_scheme 73 = .ok (.aload_n 0, 1) := by decide +kernel
theorem dX14_scheme_74 : decode cX14_scheme 74 = .ok (.getfield 20, 3) := by decide +kernel
theorem dX14_scheme_77 : decode cX14_scheme 77 = .ok (.goto 34, 3) := by decide +kernel
theorem dX14_scheme_80 : decode cX14_scheme 80 = .ok (.aload_n 0, 1) := by decide +kernel
theorem dX14_scheme_81 : decode cX14_scheme 81 = .ok (.getfield 15, 3) := by decide +kernel
theorem dX14_scheme_84 : decode cX14_scheme 84 = .ok (.aload_n 0, 1) := by decide +kernel
theorem dX14_scheme_85 : decode cX14_scheme 85 = .ok (.getfield 283, 3) := by decide +kernel
theorem dX14_scheme_88 : decode cX14_scheme 88 = .ok (.aaload, 1) := by decide +kernel
theorem dX14_scheme_89 : decode cX14_scheme 89 = .ok (.ifnonnull 13, 3) := by decide +kernel
theorem dX14_scheme_92 : decode cX14_scheme 92 = .ok (.new 13, 3) := by decide +kernel
theorem dX14_scheme_95 : decode cX14_scheme 95 = .ok (.dup, 1) := by decide +kernel
theorem dX14_scheme_96 : decode cX14_scheme 96 = .ok (.invokespecial 19, 3) := by decide +kernel
theorem dX14_scheme_99 : decode cX14_scheme 99 = .ok (.goto 12, 3) := by decide +kernel
theorem dX14_scheme_102 : decode cX14_scheme 102 = .ok (.aload_n 0, 1) := by decide +kernel
theorem dX14_scheme_103 : decode cX14_scheme 103 = .ok (.getfield 15, 3) := by decide +kernel
theorem dX14_scheme_106 : decode cX14_scheme 106 = .ok (.aload_n 0, 1) := by decide +kernel
theorem dX14_scheme_107 : decode cX14_scheme 107 = .ok (.getfield 283, 3) := by decide +kernel
theorem dX14_scheme_110 : decode cX14_scheme 110 = .ok (.aaload, 1) := by decide +kernel
theorem dX14_scheme_111 : decode cX14_scheme 111 = .ok (.astore 4, 2) := by decide +kernel
theorem dX14_scheme_113 : decode cX14_scheme 113 = .ok (.aload_n 0, 1) := by decide +kernel
theorem dX14_scheme_114 : decode cX14_scheme 114 = .ok (.getfield 283, 3) := by decide +kernel
theorem dX14_scheme_117 : decode cX14_scheme 117 = .ok (.bipush 40, 2) := by decide +kernel
theorem dX14_scheme_119 : decode cX14_scheme 119 = .ok (.if_icmp .ge 14, 3) := by decide +kernel
theorem dX14_scheme_122 : decode cX14_scheme 122 = .ok (.aload_n 0, 1) := by decide +kernel
theorem dX14_scheme_123 : decode cX14_scheme 123 = .ok (.getfield 15, 3) := by decide +kernel
theorem dX14_scheme_126 : decode cX14_scheme 126 = .ok (.aload_n 0, 1) := by decide +kernel
theorem dX14_scheme_127 : decode cX14_scheme 127 = .ok (.getfield 283, 3) := by decide +kernel
theorem dX14_scheme_130 : decode cX14_scheme 130 = .ok (.aload 4, 2) := by decide +kernel
theorem dX14_scheme_132 : decode cX14_scheme 132 = .ok (.aastore, 1) := by decide +kernel
theorem dX14_scheme_133 : decode cX14_scheme 133 = .ok (.aload_n 0, 1) := by decide +kernel
theorem dX14_scheme_134 : decode cX14_scheme 134 = .ok (.aload 4, 2) := by decide +kernel
theorem dX14_scheme_136 : decode cX14_scheme 136 = .ok (.invokevirtual 286, 3) := by decide +kernel
theorem dX14_scheme_139 : decode cX14_scheme 139 = .ok (.goto 30, 3) := by decide +kernel
theorem dX14_scheme_142 : decode cX14_scheme 142 = .ok (.astore 5, 2) := by decide +kernel
theorem dX14_scheme_144 : decode cX14_scheme 144 = .ok (.aload_n 0, 1) := by decide +kernel
theorem dX14_scheme_145 : decode cX14_scheme 145 = .ok (.aload 5, 2) := by decide +kernel
theorem dX14_scheme_147 : decode cX14_scheme 147 = .ok (.getfield 128, 3) := by decide +kernel
theorem dX14_scheme_150 : decode cX14_scheme 150 = .ok (.putfield 280, 3) := by decide +kernel
theorem dX14_scheme_153 : decode cX14_scheme 153 = .ok (.aload_n 0, 1) := by decide +kernel
theorem dX14_scheme_154 : decode cX14_scheme 154 = .ok (.iconst 4, 1) := by decide +kernel
theorem dX14_scheme_155 : decode cX14_scheme 155 = .ok (.putfield 115, 3) := by decide +kernel
theorem dX14_scheme_158 : decode cX14_scheme 158 = .ok (.aload_n 0, 1) := by decide +kernel
theorem dX14_scheme_159 : decode cX14_scheme 159 = .ok (.aload 5, 2) := by decide +kernel
theorem dX14_scheme_161 : decode cX14_scheme 161 = .ok (.getfield 134, 3) := by decide +kernel
theorem dX14_scheme_164 : decode cX14_scheme 164 = .ok (.putfield 9, 3) := by decide +kernel
theorem dX14_scheme_167 : decode cX14_scheme 167 = .ok (.iconst (-1), 1) := by decide +kernel
theorem dX14_scheme_168 : decode cX14_scheme 168 = .ok (.ireturn, 1) := by decide +kernel
theorem dX14_scheme_169 : decode cX14_scheme 169 = .ok (.aload_n 0, 1) := by decide +kernel
theorem dX14_scheme_170 : decode cX14_scheme 170 = .ok (.getfield 283, 3) := by decide +kernel
theorem dX14_scheme_173 : decode cX14_scheme 173 = .ok (.bipush 40, 2) := by decide +kernel
theorem dX14_scheme_175 : decode cX14_scheme 175 = .ok (.if_icmp .ne 9, 3) := by decide +kernel
theorem dX14_scheme_178 : decode cX14_scheme 178 = .ok (.aload_n 0, 1) := by decide +kernel
theorem dX14_scheme_179 : decode cX14_scheme 179 = .ok (.iconst 3, 1) := by decide +kernel
theorem dX14_scheme_180 : decode cX14_scheme 180 = .ok (.invokevirtual 121, 3) := by decide +kernel
theorem dX14_scheme_183 : decode cX14_scheme 183 = .ok (.ireturn, 1) := by decide +kernel
theorem dX14_scheme_184 : decode cX14_scheme 184 = .ok (.aload 4, 2) := by decide +kernel
theorem dX14_scheme_186 : decode cX14_scheme 186 = .ok (.iload_n 1, 1) := by decide +kernel
theorem dX14_scheme_187 : decode cX14_scheme 187 = .ok (.putfield 289, 3) := by decide +kernel
theorem dX14_scheme_190 : decode cX14_scheme 190 = .ok (.aload 4, 2) := by decide +kernel
theorem dX14_scheme_192 : decode cX14_scheme 192 = .ok (.iload_n 2, 1) := by decide +kernel
theorem dX14_scheme_193 : decode cX14_scheme 193 = .ok (.putfield 292, 3) := by decide +kernel
theorem dX14_scheme_196 : decode cX14_scheme 196 = .ok (.aload_n 0, 1) := by decide +kernel
theorem dX14_scheme_197 : decode cX14_scheme 197 = .ok (.dup, 1) := by decide +kernel
theorem dX14_scheme_198 : decode cX14_scheme 198 = .ok (.getfield 283, 3) := by decide +kernel
theorem dX14_scheme_201 : decode cX14_scheme 201 = .ok (.iconst 1, 1) := by decide +kernel
theorem dX14_scheme_202 : decode cX14_scheme 202 = .ok (.iadd, 1) := by decide +kernel
theorem dX14_scheme_203 : decode cX14_scheme 203 = .ok (.putfield 283, 3) := by decide +kernel
theorem dX14_scheme_206 : decode cX14_scheme 206 = .ok (.aload_n 0, 1) := by decide +kernel
theorem dX14_scheme_207 : decode cX14_scheme 207 = .ok (.aload_n 0, 1) := by decide +kernel
theorem dX14_scheme_208 : decode cX14_scheme 208 = .ok (.getfield 283, 3) := by decide +kernel
theorem dX14_scheme_211 : decode cX14_scheme 211 = .ok (.iconst 1, 1) := by decide +kernel
theorem dX14_scheme_212 : decode cX14_scheme 212 = .ok (.isub, 1) := by decide +kernel
theorem dX14_scheme_213 : decode cX14_scheme 213 = .ok (.invokevirtual 125, 3) := by decide +kernel
theorem dX14_scheme_216 : decode cX14_scheme 216 = .ok (.ireturn, 1) := by decide +kernel
theorem dX14_fault_0 : decode cX14_fault 0 = .ok (.aload_n 0, 1) := by decide +kernel
theorem dX14_fault_1 : decode cX14_fault 1 = .ok (.iconst 0, 1) := by decide +kernel
theorem dX14_fault_2 : decode cX14_fault 2 = .ok (.putfield 112, 3) := by decide +kernel
theorem dX14_fault_5 : decode cX14_fault 5 = .ok (.aload_n 0, 1) := by decide +kernel
end
section
theorem dX14_fault_6 : decode cX14_fault 6 = .ok (.getfield 280, 3) := by decide +kernel
theorem dX14_fault_9 : decode cX14_fault 9 = .ok (.ireturn, 1) := by decide +kernel
theorem dX14_where_0 : decode cX14_where 0 = .ok (.aload_n 0, 1) := by decide +kernel
theorem dX14_where_1 : decode cX14_where 1 = .ok (.iconst 0, 1) := by decide +kernel
theorem dX14_where_2 : decode cX14_where 2 = .ok (.putfield 112, 3) := by decide +kernel
theorem dX14_where_5 : decode cX14_where 5 = .ok (.aload_n 0, 1) := by decide +kernel
theorem dX14_where_6 : decode cX14_where 6 = .ok (.getfield 9, 3) := by decide +kernel
theorem dX14_where_9 : decode cX14_where 9 = .ok (.ireturn, 1) := by decide +kernel
theorem dX14_finds_0 : decode cX14_finds 0 = .ok (.aload_n 0, 1) := by decide +kernel
theorem dX14_finds_1 : decode cX14_finds 1 = .ok (.iconst (-1), 1) := by decide +kernel
theorem dX14_finds_2 : decode cX14_finds 2 = .ok (.putfield 295, 3) := by decide +kernel
theorem dX14_finds_5 : decode cX14_finds 5 = .ok (.iconst 0, 1) := by decide +kernel
theorem dX14_finds_6 : decode cX14_finds 6 = .ok (.istore 4, 2) := by decide +kernel
theorem dX14_finds_8 : decode cX14_finds 8 = .ok (.iload 4, 2) := by decide +kernel
theorem dX14_finds_10 : decode cX14_finds 10 = .ok (.aload_n 0, 1) := by decide +kernel
theorem dX14_finds_11 : decode cX14_finds 11 = .ok (.getfield 283, 3) := by decide +kernel
theorem dX14_finds_14 : decode cX14_finds 14 = .ok (.if_icmp .ge 144, 3) := by decide +kernel
theorem dX14_finds_17 : decode cX14_finds 17 = .ok (.aload_n 0, 1) := by decide +kernel
theorem dX14_finds_18 : decode cX14_finds 18 = .ok (.getfield 15, 3) := by decide +kernel
theorem dX14_finds_21 : decode cX14_finds 21 = .ok (.iload 4, 2) := by decide +kernel
theorem dX14_finds_23 : decode cX14_finds 23 = .ok (.aaload, 1) := by decide +kernel
theorem dX14_finds_24 : decode cX14_finds 24 = .ok (.astore 5, 2) := by decide +kernel
theorem dX14_finds_26 : decode cX14_finds 26 = .ok (.aload 5, 2) := by decide +kernel
theorem dX14_finds_28 : decode cX14_finds 28 = .ok (.getfield 289, 3) := by decide +kernel
theorem dX14_finds_31 : decode cX14_finds 31 = .ok (.iload_n 1, 1) := by decide +kernel
theorem dX14_finds_32 : decode cX14_finds 32 = .ok (.if_icmp .ne 120, 3) := by decide +kernel
theorem dX14_finds_35 : decode cX14_finds 35 = .ok (.aload 5, 2) := by decide +kernel
theorem dX14_finds_37 : decode cX14_finds 37 = .ok (.getfield 292, 3) := by decide +kernel
theorem dX14_finds_40 : decode cX14_finds 40 = .ok (.iload_n 3, 1) := by decide +kernel
theorem dX14_finds_41 : decode cX14_finds 41 = .ok (.if_icmp .gt 111, 3) := by decide +kernel
theorem dX14_finds_44 : decode cX14_finds 44 = .ok (.aload_n 0, 1) := by decide +kernel
theorem dX14_finds_45 : decode cX14_finds 45 = .ok (.getfield 295, 3) := by decide +kernel
theorem dX14_finds_48 : decode cX14_finds 48 = .ok (.iconst (-1), 1) := by decide +kernel
theorem dX14_finds_49 : decode cX14_finds 49 = .ok (.if_icmp .eq 26, 3) := by decide +kernel
theorem dX14_finds_52 : decode cX14_finds 52 = .ok (.aload 5, 2) := by decide +kernel
theorem dX14_finds_54 : decode cX14_finds 54 = .ok (.getfield 292, 3) := by decide +kernel
theorem dX14_finds_57 : decode cX14_finds 57 = .ok (.aload_n 0, 1) := by decide +kernel
theorem dX14_finds_58 : decode cX14_finds 58 = .ok (.getfield 15, 3) := by decide +kernel
theorem dX14_finds_61 : decode cX14_finds 61 = .ok (.aload_n 0, 1) := by decide +kernel
theorem dX14_finds_62 : decode cX14_finds 62 = .ok (.getfield 295, 3) := by decide +kernel
theorem dX14_finds_65 : decode cX14_finds 65 = .ok (.aaload, 1) := by decide +kernel
theorem dX14_finds_66 : decode cX14_finds 66 = .ok (.getfield 292, 3) := by decide +kernel
theorem dX14_finds_69 : decode cX14_finds 69 = .ok (.if_icmp .ge 6, 3) := by decide +kernel
theorem dX14_finds_72 : decode cX14_finds 72 = .ok (.goto 80, 3) := by decide +kernel
theorem dX14_finds_75 : decode cX14_finds 75 = .ok (.iconst 0, 1) := by decide +kernel
theorem dX14_finds_76 : decode cX14_finds 76 = .ok (.istore 6, 2) := by decide +kernel
theorem dX14_finds_78 : decode cX14_finds 78 = .ok (.iload 6, 2) := by decide +kernel
theorem dX14_finds_80 : decode cX14_finds 80 = .ok (.aload 5, 2) := by decide +kernel
theorem dX14_finds_82 : decode cX14_finds 82 = .ok (.getfield 208, 3) := by decide +kernel
theorem dX14_finds_85 : decode cX14_finds 85 = .ok (.if_icmp .ge 67, 3) := by decide +kernel
theorem dX14_finds_88 : decode cX14_finds 88 = .ok (.iload_n 2, 1) := by decide +kernel
theorem dX14_finds_89 : decode cX14_finds 89 = .ok (.ifCond .ne 18, 3) := by decide +kernel
theorem dX14_finds_92 : decode cX14_finds 92 = .ok (.aload 5, 2) := by decide +kernel
theorem dX14_finds_94 : decode cX14_finds 94 = .ok (.getfield 223, 3) := by decide +kernel
theorem dX14_finds_97 : decode cX14_finds 97 = .ok (.iload 6, 2) := by decide +kernel
theorem dX14_finds_99 : decode cX14_finds 99 = .ok (.iaload, 1) := by decide +kernel
theorem dX14_finds_100 : decode cX14_finds 100 = .ok (.iconst 2, 1) := by decide +kernel
theorem dX14_finds_101 : decode cX14_finds 101 = .ok (.if_icmp .eq 33, 3) := by decide +kernel
theorem dX14_finds_104 : decode cX14_finds 104 = .ok (.goto 42, 3) := by decide +kernel
theorem dX14_finds_107 : decode cX14_finds 107 = .ok (.aload 5, 2) := by decide +kernel
theorem dX14_finds_109 : decode cX14_finds 109 = .ok (.getfield 223, 3) := by decide +kernel
theorem dX14_finds_112 : decode cX14_finds 112 = .ok (.iload 6, 2) := by decide +kernel
theorem dX14_finds_114 : decode cX14_finds 114 = .ok (.iaload, 1) := by decide +kernel
theorem dX14_finds_115 : decode cX14_finds 115 = .ok (.iconst 2, 1) := by decide +kernel
theorem dX14_finds_116 : decode cX14_finds 116 = .ok (.if_icmp .eq 30, 3) := by decide +kernel
theorem dX14_finds_119 : decode cX14_finds 119 = .ok (.aload 5, 2) := by decide +kernel
theorem dX14_finds_121 : decode cX14_finds 121 = .ok (.getfield 226, 3) := by decide +kernel
theorem dX14_finds_124 : decode cX14_finds 124 = .ok (.iload 6, 2) := by decide +kernel
theorem dX14_finds_126 : decode cX14_finds 126 = .ok (.iaload, 1) := by decide +kernel
theorem dX14_finds_127 : decode cX14_finds 127 = .ok (.iload_n 2, 1) := by decide +kernel
theorem dX14_finds_128 : decode cX14_finds 128 = .ok (.if_icmp .eq 6, 3) := by decide +kernel
theorem dX14_finds_131 : decode cX14_finds 131 = .ok (.goto 15, 3) := by decide +kernel
theorem dX14_finds_134 : decode cX14_finds 134 = .ok (.aload_n 0, 1) := by decide +kernel
theorem dX14_finds_135 : decode cX14_finds 135 = .ok (.iload 4, 2) := by decide +kernel
theorem dX14_finds_137 : decode cX14_finds 137 = .ok (.putfield 295, 3) := by decide +kernel
theorem dX14_finds_140 : decode cX14_finds 140 = .ok (.aload_n 0, 1) := by decide +kernel
theorem dX14_finds_141 : decode cX14_finds 141 = .ok (.iload 6, 2) := by decide +kernel
theorem dX14_finds_143 : decode cX14_finds 143 = .ok (.putfield 298, 3) := by decide +kernel
theorem dX14_finds_146 : decode cX14_finds 146 = .ok (.iinc 6 1, 3) := by decide +kernel
theorem dX14_finds_149 : decode cX14_finds 149 = .ok (.goto (-71), 3) := by decide +kernel
theorem dX14_finds_152 : decode cX14_finds 152 = .ok (.iinc 4 1, 3) := by decide +kernel
theorem dX14_finds_155 : decode cX14_finds 155 = .ok (.goto (-147), 3) := by decide +kernel
theorem dX14_finds_158 : decode cX14_finds 158 = .ok (.aload_n 0, 1) := by decide +kernel
theorem dX14_finds_159 : decode cX14_finds 159 = .ok (.getfield 295, 3) := by decide +kernel
theorem dX14_finds_162 : decode cX14_finds 162 = .ok (.iconst (-1), 1) := by decide +kernel
theorem dX14_finds_163 : decode cX14_finds 163 = .ok (.if_icmp .eq 28, 3) := by decide +kernel
theorem dX14_finds_166 : decode cX14_finds 166 = .ok (.aload_n 0, 1) := by decide +kernel
theorem dX14_finds_167 : decode cX14_finds 167 = .ok (.getfield 15, 3) := by decide +kernel
theorem dX14_finds_170 : decode cX14_finds 170 = .ok (.aload_n 0, 1) := by decide +kernel
theorem dX14_finds_171 : decode cX14_finds 171 = .ok (.getfield 295, 3) := by decide +kernel
theorem dX14_finds_174 : decode cX14_finds 174 = .ok (.aaload, 1) := by decide +kernel
theorem dX14_finds_175 : decode cX14_finds 175 = .ok (.getfield 223, 3) := by decide +kernel
theorem dX14_finds_178 : decode cX14_finds 178 = .ok (.aload_n 0, 1) := by decide +kernel
theorem dX14_finds_179 : decode cX14_finds 179 = .ok (.getfield 298, 3) := by decide +kernel
theorem dX14_finds_182 : decode cX14_finds 182 = .ok (.iaload, 1) := by decide +kernel
theorem dX14_finds_183 : decode cX14_finds 183 = .ok (.iconst 1, 1) := by decide +kernel
theorem dX14_finds_184 : decode cX14_finds 184 = .ok (.if_icmp .eq 7, 3) := by decide +kernel
theorem dX14_finds_187 : decode cX14_finds 187 = .ok (.iconst 1, 1) := by decide +kernel
theorem dX14_finds_188 : decode cX14_finds 188 = .ok (.goto 4, 3) := by decide +kernel
theorem dX14_finds_191 : decode cX14_finds 191 = .ok (.iconst 0, 1) := by decide +kernel
theorem dX14_finds_192 : decode cX14_finds 192 = .ok (.ireturn, 1) := by decide +kernel
theorem dX14_clause_0 : decode cX14_clause 0 = .ok (.aload_n 0, 1) := by decide +kernel
theorem dX14_clause_1 : decode cX14_clause 1 = .ok (.iconst 0, 1) := by decide +kernel
theorem dX14_clause_2 : decode cX14_clause 2 = .ok (.putfield 112, 3) := by decide +kernel
theorem dX14_clause_5 : decode cX14_clause 5 = .ok (.aload_n 0, 1) := by decide +kernel
theorem dX14_clause_6 : decode cX14_clause 6 = .ok (.iload_n 1, 1) := by decide +kernel
theorem dX14_clause_7 : decode cX14_clause 7 = .ok (.invokevirtual 274, 3) := by decide +kernel
theorem dX14_clause_10 : decode cX14_clause 10 = .ok (.ifCond .eq 20, 3) := by decide +kernel
theorem dX14_clause_13 : decode cX14_clause 13 = .ok (.iload_n 2, 1) := by decide +kernel
theorem dX14_clause_14 : decode cX14_clause 14 = .ok (.iconst 1, 1) := by decide +kernel
theorem dX14_clause_15 : decode cX14_clause 15 = .ok (.bipush 12, 2) := by decide +kernel
theorem dX14_clause_17 : decode cX14_clause 17 = .ok (.invokestatic 231, 3) := by decide +kernel
theorem dX14_clause_20 : decode cX14_clause 20 = .ok (.ifCond .eq 10, 3) := by decide +kernel
theorem dX14_clause_23 : decode cX14_clause 23 = .ok (.iload_n 3, 1) := by decide +kernel
theorem dX14_clause_24 : decode cX14_clause 24 = .ok (.invokestatic 277, 3) := by decide +kernel
theorem dX14_clause_27 : decode cX14_clause 27 = .ok (.ifCond .ne 5, 3) := by decide +kernel
theorem dX14_clause_30 : decode cX14_clause 30 = .ok (.iconst (-1), 1) := by decide +kernel
theorem dX14_clause_31 : decode cX14_clause 31 = .ok (.ireturn, 1) := by decide +kernel
theorem dX14_clause_32 : decode cX14_clause 32 = .ok (.aload_n 0, 1) := by decide +kernel
theorem dX14_clause_33 : decode cX14_clause 33 = .ok (.iload_n 1, 1) := by decide +kernel
theorem dX14_clause_34 : decode cX14_clause 34 = .ok (.iload_n 2, 1) := by decide +kernel
theorem dX14_clause_35 : decode cX14_clause 35 = .ok (.iload_n 3, 1) := by decide +kernel
theorem dX14_clause_36 : decode cX14_clause 36 = .ok (.invokevirtual 301, 3) := by decide +kernel
theorem dX14_clause_39 : decode cX14_clause 39 = .ok (.ifCond .eq 10, 3) := by decide +kernel
theorem dX14_clause_42 : decode cX14_clause 42 = .ok (.aload_n 0, 1) := by decide +kernel
theorem dX14_clause_43 : decode cX14_clause 43 = .ok (.getfield 295, 3) := by decide +kernel
theorem dX14_clause_46 : decode cX14_clause 46 = .ok (.goto 5, 3) := by decide +kernel
theorem dX14_clause_49 : decode cX14_clause 49 = .ok (.bipush (-2), 2) := by decide +kernel
theorem dX14_clause_51 : decode cX14_clause 51 = .ok (.ireturn, 1) := by decide +kernel
theorem dX14_clausesOf_0 : decode cX14_clausesOf 0 = .ok (.iconst 0, 1) := by decide +kernel
theorem dX14_clausesOf_1 : decode cX14_clausesOf 1 = .ok (.istore_n 3, 1) := by decide +kernel
theorem dX14_clausesOf_2 : decode cX14_clausesOf 2 = .ok (.iconst 1, 1) := by decide +kernel
theorem dX14_clausesOf_3 : decode cX14_clausesOf 3 = .ok (.istore 4, 2) := by decide +kernel
theorem dX14_clausesOf_5 : decode cX14_clausesOf 5 = .ok (.iload 4, 2) := by decide +kernel
theorem dX14_clausesOf_7 : decode cX14_clausesOf 7 = .ok (.bipush 12, 2) := by decide +kernel
theorem dX14_clausesOf_9 : decode cX14_clausesOf 9 = .ok (.if_icmp .gt 28, 3) := by decide +kernel
theorem dX14_clausesOf_12 : decode cX14_clausesOf 12 = .ok (.iload_n 3, 1) := by decide +kernel
theorem dX14_clausesOf_13 : decode cX14_clausesOf 13 = .ok (.aload_n 0, 1) := by decide +kernel
theorem dX14_clausesOf_14 : decode cX14_clausesOf 14 = .ok (.iload_n 1, 1) := by decide +kernel
theorem dX14_clausesOf_15 : decode cX14_clausesOf 15 = .ok (.iload 4, 2) := by decide +kernel
theorem dX14_clausesOf_17 : decode cX14_clausesOf 17 = .ok (.iload_n 2, 1) := by decide +kernel
theorem dX14_clausesOf_18 : decode cX14_clausesOf 18 = .ok (.invokevirtual 301, 3) := by decide +kernel
theorem dX14_clausesOf_21 : decode cX14_clausesOf 21 = .ok (.ifCond .eq 7, 3) := by decide +kernel
theorem dX14_clausesOf_24 : decode cX14_clausesOf 24 = .ok (.iconst 1, 1) := by decide +kernel
theorem dX14_clausesOf_25 : decode cX14_clausesOf 25 = .ok (.goto 4, 3) := by decide +kernel
theorem dX14_clausesOf_28 : decode cX14_clausesOf 28 = .ok (.iconst 0, 1) := by decide +kernel
theorem dX14_clausesOf_29 : decode cX14_clausesOf 29 = .ok (.iadd, 1) := by decide +kernel
theorem dX14_clausesOf_30 : decode cX14_clausesOf 30 = .ok (.istore_n 3, 1) := by decide +kernel
theorem dX14_clausesOf_31 : decode cX14_clausesOf 31 = .ok (.iinc 4 1, 3) := by decide +kernel
theorem dX14_clausesOf_34 : decode cX14_clausesOf 34 = .ok (.goto (-29), 3) := by decide +kernel
theorem dX14_clausesOf_37 : decode cX14_clausesOf 37 = .ok (.iload_n 3, 1) := by decide +kernel
theorem dX14_clausesOf_38 : decode cX14_clausesOf 38 = .ok (.ireturn, 1) := by decide +kernel
theorem dX14_clauses_0 : decode cX14_clauses 0 = .ok (.aload_n 0, 1) := by decide +kernel
theorem dX14_clauses_1 : decode cX14_clauses 1 = .ok (.iconst 0, 1) := by decide +kernel
theorem dX14_clauses_2 : decode cX14_clauses 2 = .ok (.putfield 112, 3) := by decide +kernel
theorem dX14_clauses_5 : decode cX14_clauses 5 = .ok (.aload_n 0, 1) := by decide +kernel
theorem dX14_clauses_6 : decode cX14_clauses 6 = .ok (.iload_n 1, 1) := by decide +kernel
theorem dX14_clauses_7 : decode cX14_clauses 7 = .ok (.invokevirtual 274, 3) := by decide +kernel
theorem dX14_clauses_10 : decode cX14_clauses 10 = .ok (.ifCond .eq 19, 3) := by decide +kernel
theorem dX14_clauses_13 : decode cX14_clauses 13 = .ok (.iload_n 2, 1) := by decide +kernel
theorem dX14_clauses_14 : decode cX14_clauses 14 = .ok (.invokestatic 277, 3) := by decide +kernel
theorem dX14_clauses_17 : decode cX14_clauses 17 = .ok (.ifCond .eq 12, 3) := by decide +kernel
theorem dX14_clauses_20 : decode cX14_clauses 20 = .ok (.aload_n 0, 1) := by decide +kernel
theorem dX14_clauses_21 : decode cX14_clauses 21 = .ok (.iload_n 1, 1) := by decide +kernel
theorem dX14_clauses_22 : decode cX14_clauses 22 = .ok (.iload_n 2, 1) := by decide +kernel
theorem dX14_clauses_23 : decode cX14_clauses 23 = .ok (.invokevirtual 304, 3) := by decide +kernel
theorem dX14_clauses_26 : decode cX14_clauses 26 = .ok (.goto 4, 3) := by decide +kernel
theorem dX14_clauses_29 : decode cX14_clauses 29 = .ok (.iconst (-1), 1) := by decide +kernel
theorem dX14_clauses_30 : decode cX14_clauses 30 = .ok (.ireturn, 1) := by decide +kernel
theorem dX14_isPerson_0 : decode cX14_isPerson 0 = .ok (.iload_n 1, 1) := by decide +kernel
theorem dX14_isPerson_1 : decode cX14_isPerson 1 = .ok (.ifCond .lt 15, 3) := by decide +kernel
theorem dX14_isPerson_4 : decode cX14_isPerson 4 = .ok (.iload_n 1, 1) := by decide +kernel
theorem dX14_isPerson_5 : decode cX14_isPerson 5 = .ok (.aload_n 0, 1) := by decide +kernel
theorem dX14_isPerson_6 : decode cX14_isPerson 6 = .ok (.getfield 308, 3) := by decide +kernel
theorem dX14_isPerson_9 : decode cX14_isPerson 9 = .ok (.if_icmp .ge 7, 3) := by decide +kernel
theorem dX14_isPerson_12 : decode cX14_isPerson 12 = .ok (.iconst 1, 1) := by decide +kernel
theorem dX14_isPerson_13 : decode cX14_isPerson 13 = .ok (.goto 4, 3) := by decide +kernel
theorem dX14_isPerson_16 : decode cX14_isPerson 16 = .ok (.iconst 0, 1) := by decide +kernel
theorem dX14_isPerson_17 : decode cX14_isPerson 17 = .ok (.ireturn, 1) := by decide +kernel
theorem dX14_person_0 : decode cX14_person 0 = .ok (.aload_n 0, 1) := by decide +kernel
theorem dX14_person_1 : decode cX14_person 1 = .ok (.iconst 0, 1) := by decide +kernel
theorem dX14_person_2 : decode cX14_person 2 = .ok (.putfield 112, 3) := by decide +kernel
theorem dX14_person_5 : decode cX14_person 5 = .ok (.iload_n 1, 1) := by decide +kernel
theorem dX14_person_6 : decode cX14_person 6 = .ok (.ldc_w 311, 3) := by decide +kernel
theorem dX14_person_9 : decode cX14_person 9 = .ok (.aload_n 0, 1) := by decide +kernel
theorem dX14_person_10 : decode cX14_person 10 = .ok (.getfield 312, 3) := by decide +kernel
theorem dX14_person_13 : decode cX14_person 13 = .ok (.invokestatic 231, 3) := by decide +kernel
theorem dX14_person_16 : decode cX14_person 16 = .ok (.ifCond .eq 15, 3) := by decide +kernel
theorem dX14_person_19 : decode cX14_person 19 = .ok (.iload_n 2, 1) := by decide +kernel
theorem dX14_person_20 : decode cX14_person 20 = .ok (.iload_n 1, 1) := by decide +kernel
theorem dX14_person_21 : decode cX14_person 21 = .ok (.aload_n 0, 1) := by decide +kernel
theorem dX14_person_22 : decode cX14_person 22 = .ok (.getfield 312, 3) := by decide +kernel
theorem dX14_person_25 : decode cX14_person 25 = .ok (.invokestatic 231, 3) := by decide +kernel
theorem dX14_person_28 : decode cX14_person 28 = .ok (.ifCond .ne 9, 3) := by decide +kernel
theorem dX14_person_31 : decode cX14_person 31 = .ok (.aload_n 0, 1) := by decide +kernel
theorem dX14_person_32 : decode cX14_person 32 = .ok (.iconst 2, 1) := by decide +kernel
theorem dX14_person_33 : decode cX14_person 33 = .ok (.invokevirtual 121, 3) := by decide +kernel
theorem dX14_person_36 : decode cX14_person 36 = .ok (.ireturn, 1) := by decide +kernel
theorem dX14_person_37 : decode cX14_person 37 = .ok (.aload_n 0, 1) := by decide +kernel
theorem dX14_person_38 : decode cX14_person 38 = .ok (.getfield 308, 3) := by decide +kernel
theorem dX14_person_41 : decode cX14_person 41 = .ok (.bipush 40, 2) := by decide +kernel
theorem dX14_person_43 : decode cX14_person 43 = .ok (.if_icmp .ne 9, 3) := by decide +kernel
theorem dX14_person_46 : decode cX14_person 46 = .ok (.aload_n 0, 1) := by decide +kernel
theorem dX14_person_47 : decode cX14_person 47 = .ok (.iconst 3, 1) := by decide +kernel
theorem dX14_person_48 : decode cX14_person 48 = .ok (.invokevirtual 121, 3) := by decide +kernel
theorem dX14_person_51 : decode cX14_person 51 = .ok (.ireturn, 1) := by decide +kernel
theorem dX14_person_52 : decode cX14_person 52 = .ok (.aload_n 0, 1) := by decide +kernel
theorem dX14_person_53 : decode cX14_person 53 = .ok (.getfield 35, 3) := by decide +kernel
theorem dX14_person_56 : decode cX14_person 56 = .ok (.aload_n 0, 1) := by decide +kernel
theorem dX14_person_57 : decode cX14_person 57 = .ok (.getfield 308, 3) := by decide +kernel
theorem dX14_person_60 : decode cX14_person 60 = .ok (.iload_n 1, 1) := by decide +kernel
theorem dX14_person_61 : decode cX14_person 61 = .ok (.iastore, 1) := by decide +kernel
theorem dX14_person_62 : decode cX14_person 62 = .ok (.aload_n 0, 1) := by decide +kernel
theorem dX14_person_63 : decode cX14_person 63 = .ok (.getfield 39, 3) := by decide +kernel
theorem dX14_person_66 : decode cX14_person 66 = .ok (.aload_n 0, 1) := by decide +kernel
theorem dX14_person_67 : decode cX14_person 67 = .ok (.getfield 308, 3) := by decide +kernel
theorem dX14_person_70 : decode cX14_person 70 = .ok (.iload_n 2, 1) := by decide +kernel
theorem dX14_person_71 : decode cX14_person 71 = .ok (.iastore, 1) := by decide +kernel
theorem dX14_person_72 : decode cX14_person 72 = .ok (.aload_n 0, 1) := by decide +kernel
theorem dX14_person_73 : decode cX14_person 73 = .ok (.getfield 60, 3) := by decide +kernel
theorem dX14_person_76 : decode cX14_person 76 = .ok (.aload_n 0, 1) := by decide +kernel
theorem dX14_person_77 : decode cX14_person 77 = .ok (.getfield 308, 3) := by decide +kernel
theorem dX14_person_80 : decode cX14_person 80 = .ok (.iload_n 3, 1) := by decide +kernel
theorem dX14_person_81 : decode cX14_person 81 = .ok (.bastore, 1) := by decide +kernel
theorem dX14_person_82 : decode cX14_person 82 = .ok (.aload_n 0, 1) := by decide +kernel
theorem dX14_person_83 : decode cX14_person 83 = .ok (.getfield 42, 3) := by decide +kernel
theorem dX14_person_86 : decode cX14_person 86 = .ok (.aload_n 0, 1) := by decide +kernel
theorem dX14_person_87 : decode cX14_person 87 = .ok (.getfield 308, 3) := by decide +kernel
theorem dX14_person_90 : decode cX14_person 90 = .ok (.aload_n 0, 1) := by decide +kernel
theorem dX14_person_91 : decode cX14_person 91 = .ok (.getfield 312, 3) := by decide +kernel
theorem dX14_person_94 : decode cX14_person 94 = .ok (.iastore, 1) := by decide +kernel
theorem dX14_person_95 : decode cX14_person 95 = .ok (.aload_n 0, 1) := by decide +kernel
theorem dX14_person_96 : decode cX14_person 96 = .ok (.getfield 45, 3) := by decide +kernel
theorem dX14_person_99 : decode cX14_person 99 = .ok (.aload_n 0, 1) := by decide +kernel
theorem dX14_person_100 : decode cX14_person 100 = .ok (.getfield 308, 3) := by decide +kernel
theorem dX14_person_103 : decode cX14_person 103 = .ok (.iconst (-1), 1) := by decide +kernel
theorem dX14_person_104 : decode cX14_person 104 = .ok (.iastore, 1) := by decide +kernel
theorem dX14_person_105 : decode cX14_person 105 = .ok (.aload_n 0, 1) := by decide +kernel
theorem dX14_person_106 : decode cX14_person 106 = .ok (.getfield 54, 3) := by decide +kernel
theorem dX14_person_109 : decode cX14_person 109 = .ok (.aload_n 0, 1) := by decide +kernel
theorem dX14_person_110 : decode cX14_person 110 = .ok (.getfield 308, 3) := by decide +kernel
theorem dX14_person_113 : decode cX14_person 113 = .ok (.iconst (-1), 1) := by decide +kernel
theorem dX14_person_114 : decode cX14_person 114 = .ok (.iastore, 1) := by decide +kernel
theorem dX14_person_115 : decode cX14_person 115 = .ok (.aload_n 0, 1) := by decide +kernel
theorem dX14_person_116 : decode cX14_person 116 = .ok (.dup, 1) := by decide +kernel
theorem dX14_person_117 : decode cX14_person 117 = .ok (.getfield 308, 3) := by decide +kernel
theorem dX14_person_120 : decode cX14_person 120 = .ok (.iconst 1, 1) := by decide +kernel
theorem dX14_person_121 : decode cX14_person 121 = .ok (.iadd, 1) := by decide +kernel
theorem dX14_person_122 : decode cX14_person 122 = .ok (.putfield 308, 3) := by decide +kernel
theorem dX14_person_125 : decode cX14_person 125 = .ok (.aload_n 0, 1) := by decide +kernel
theorem dX14_person_126 : decode cX14_person 126 = .ok (.aload_n 0, 1) := by decide +kernel
theorem dX14_person_127 : decode cX14_person 127 = .ok (.getfield 308, 3) := by decide +kernel
theorem dX14_person_130 : decode cX14_person 130 = .ok (.iconst 1, 1) := by decide +kernel
theorem dX14_person_131 : decode cX14_person 131 = .ok (.isub, 1) := by decide +kernel
theorem dX14_person_132 : decode cX14_person 132 = .ok (.invokevirtual 125, 3) := by decide +kernel
theorem dX14_person_135 : decode cX14_person 135 = .ok (.ireturn, 1) := by decide +kernel
theorem dX14_means_0 : decode cX14_means 0 = .ok (.aload_n 0, 1) := by decide +kernel
theorem dX14_means_1 : decode cX14_means 1 = .ok (.iconst 0, 1) := by decide +kernel
theorem dX14_means_2 : decode cX14_means 2 = .ok (.putfield 112, 3) := by decide +kernel
theorem dX14_means_5 : decode cX14_means 5 = .ok (.aload_n 0, 1) := by decide +kernel
theorem dX14_means_6 : decode cX14_means 6 = .ok (.iload_n 1, 1) := by decide +kernel
theorem dX14_means_7 : decode cX14_means 7 = .ok (.invokevirtual 315, 3) := by decide +kernel
theorem dX14_means_10 : decode cX14_means 10 = .ok (.ifCond .ne 9, 3) := by decide +kernel
theorem dX14_means_13 : decode cX14_means 13 = .ok (.aload_n 0, 1) := by decide +kernel
theorem dX14_means_14 : decode cX14_means 14 = .ok (.iconst 1, 1) := by decide +kernel
theorem dX14_means_15 : decode cX14_means 15 = .ok (.invokevirtual 121, 3) := by decide +kernel
theorem dX14_means_18 : decode cX14_means 18 = .ok (.ireturn, 1) := by decide +kernel
theorem dX14_means_19 : decode cX14_means 19 = .ok (.iload_n 2, 1) := by decide +kernel
theorem dX14_means_20 : decode cX14_means 20 = .ok (.invokestatic 277, 3) := by decide +kernel
theorem dX14_means_23 : decode cX14_means 23 = .ok (.ifCond .eq 14, 3) := by decide +kernel
theorem dX14_means_26 : decode cX14_means 26 = .ok (.iload_n 3, 1) := by decide +kernel
theorem dX14_means_27 : decode cX14_means 27 = .ok (.iconst 0, 1) := by decide +kernel
theorem dX14_means_28 : decode cX14_means 28 = .ok (.sipush 9999, 3) := by decide +kernel
theorem dX14_means_31 : decode cX14_means 31 = .ok (.invokestatic 231, 3) := by decide +kernel
theorem dX14_means_34 : decode cX14_means 34 = .ok (.ifCond .ne 9, 3) := by decide +kernel
theorem dX14_means_37 : decode cX14_means 37 = .ok (.aload_n 0, 1) := by decide +kernel
theorem dX14_means_38 : decode cX14_means 38 = .ok (.iconst 2, 1) := by decide +kernel
theorem dX14_means_39 : decode cX14_means 39 = .ok (.invokevirtual 121, 3) := by decide +kernel
theorem dX14_means_42 : decode cX14_means 42 = .ok (.ireturn, 1) := by decide +kernel
theorem dX14_means_43 : decode cX14_means 43 = .ok (.aload_n 0, 1) := by decide +kernel
theorem dX14_means_44 : decode cX14_means 44 = .ok (.getfield 57, 3) := by decide +kernel
theorem dX14_means_47 : decode cX14_means 47 = .ok (.iload_n 1, 1) := by decide +kernel
theorem dX14_means_48 : decode cX14_means 48 = .ok (.iaload, 1) := by decide +kernel
theorem dX14_means_49 : decode cX14_means 49 = .ok (.bipush 6, 2) := by decide +kernel
theorem dX14_means_51 : decode cX14_means 51 = .ok (.if_icmp .ne 9, 3) := by decide +kernel
theorem dX14_means_54 : decode cX14_means 54 = .ok (.aload_n 0, 1) := by decide +kernel
theorem dX14_means_55 : decode cX14_means 55 = .ok (.iconst 3, 1) := by decide +kernel
theorem dX14_means_56 : decode cX14_means 56 = .ok (.invokevirtual 121, 3) := by decide +kernel
theorem dX14_means_59 : decode cX14_means 59 = .ok (.ireturn, 1) := by decide +kernel
theorem dX14_means_60 : decode cX14_means 60 = .ok (.aload_n 0, 1) := by decide +kernel
theorem dX14_means_61 : decode cX14_means 61 = .ok (.getfield 64, 3) := by decide +kernel
theorem dX14_means_64 : decode cX14_means 64 = .ok (.bipush 6, 2) := by decide +kernel
theorem dX14_means_66 : decode cX14_means 66 = .ok (.iload_n 1, 1) := by decide +kernel
theorem dX14_means_67 : decode cX14_means 67 = .ok (.imul, 1) := by decide +kernel
theorem dX14_means_68 : decode cX14_means 68 = .ok (.aload_n 0, 1) := by decide +kernel
theorem dX14_means_69 : decode cX14_means 69 = .ok (.getfield 57, 3) := by decide +kernel
theorem dX14_means_72 : decode cX14_means 72 = .ok (.iload_n 1, 1) := by decide +kernel
theorem dX14_means_73 : decode cX14_means 73 = .ok (.iaload, 1) := by decide +kernel
theorem dX14_means_74 : decode cX14_means 74 = .ok (.iadd, 1) := by decide +kernel
theorem dX14_means_75 : decode cX14_means 75 = .ok (.iload_n 2, 1) := by decide +kernel
theorem dX14_means_76 : decode cX14_means 76 = .ok (.iastore, 1) := by decide +kernel
theorem dX14_means_77 : decode cX14_means 77 = .ok (.aload_n 0, 1) := by decide +kernel
theorem dX14_means_78 : decode cX14_means 78 = .ok (.getfield 67, 3) := by decide +kernel
theorem dX14_means_81 : decode cX14_means 81 = .ok (.bipush 6, 2) := by decide +kernel
theorem dX14_means_83 : decode cX14_means 83 = .ok (.iload_n 1, 1) := by decide +kernel
theorem dX14_means_84 : decode cX14_means 84 = .ok (.imul, 1) := by decide +kernel
theorem dX14_means_85 : decode cX14_means 85 = .ok (.aload_n 0, 1) := by decide +kernel
theorem dX14_means_86 : decode cX14_means 86 = .ok (.getfield 57, 3) := by decide +kernel
theorem dX14_means_89 : decode cX14_means 89 = .ok (.iload_n 1, 1) := by decide +kernel
theorem dX14_means_90 : decode cX14_means 90 = .ok (.iaload, 1) := by decide +kernel
theorem dX14_means_91 : decode cX14_means 91 = .ok (.iadd, 1) := by decide +kernel
theorem dX14_means_92 : decode cX14_means 92 = .ok (.iload_n 3, 1) := by decide +kernel
theorem dX14_means_93 : decode cX14_means 93 = .ok (.iastore, 1) := by decide +kernel
theorem dX14_means_94 : decode cX14_means 94 = .ok (.aload_n 0, 1) := by decide +kernel
theorem dX14_means_95 : decode cX14_means 95 = .ok (.getfield 57, 3) := by decide +kernel
theorem dX14_means_98 : decode cX14_means 98 = .ok (.iload_n 1, 1) := by decide +kernel
theorem dX14_means_99 : decode cX14_means 99 = .ok (.dup2, 1) := by decide +kernel
theorem dX14_means_100 : decode cX14_means 100 = .ok (.iaload, 1) := by decide +kernel
theorem dX14_means_101 : decode cX14_means 101 = .ok (.iconst 1, 1) := by decide +kernel
theorem dX14_means_102 : decode cX14_means 102 = .ok (.iadd, 1) := by decide +kernel
theorem dX14_means_103 : decode cX14_means 103 = .ok (.iastore, 1) := by decide +kernel
theorem dX14_means_104 : decode cX14_means 104 = .ok (.aload_n 0, 1) := by decide +kernel
theorem dX14_means_105 : decode cX14_means 105 = .ok (.aload_n 0, 1) := by decide +kernel
theorem dX14_means_106 : decode cX14_means 106 = .ok (.getfield 57, 3) := by decide +kernel
theorem dX14_means_109 : decode cX14_means 109 = .ok (.iload_n 1, 1) := by decide +kernel
theorem dX14_means_110 : decode cX14_means 110 = .ok (.iaload, 1) := by decide +kernel
theorem dX14_means_111 : decode cX14_means 111 = .ok (.invokevirtual 125, 3) := by decide +kernel
theorem dX14_means_114 : decode cX14_means 114 = .ok (.ireturn, 1) := by decide +kernel
theorem dX14_factOf_0 : decode cX14_factOf 0 = .ok (.iload_n 3, 1) := by decide +kernel
theorem dX14_factOf_1 : decode cX14_factOf 1 = .ok (.tableswitch 187 0 3 #[31, 58, 85, 172], 31) := by decide +kernel
theorem dX14_factOf_32 : decode cX14_factOf 32 = .ok (.iload_n 2, 1) := by decide +kernel
theorem dX14_factOf_33 : decode cX14_factOf 33 = .ok (.aload_n 0, 1) := by decide +kernel
theorem dX14_factOf_34 : decode cX14_factOf 34 = .ok (.getfield 35, 3) := by decide +kernel
theorem dX14_factOf_37 : decode cX14_factOf 37 = .ok (.iload_n 1, 1) := by decide +kernel
theorem dX14_factOf_38 : decode cX14_factOf 38 = .ok (.iaload, 1) := by decide +kernel
theorem dX14_factOf_39 : decode cX14_factOf 39 = .ok (.if_icmp .ge 7, 3) := by decide +kernel
theorem dX14_factOf_42 : decode cX14_factOf 42 = .ok (.iconst 0, 1) := by decide +kernel
theorem dX14_factOf_43 : decode cX14_factOf 43 = .ok (.goto 15, 3) := by decide +kernel
theorem dX14_factOf_46 : decode cX14_factOf 46 = .ok (.iload_n 2, 1) := by decide +kernel
theorem dX14_factOf_47 : decode cX14_factOf 47 = .ok (.aload_n 0, 1) := by decide +kernel
theorem dX14_factOf_48 : decode cX14_factOf 48 = .ok (.getfield 35, 3) := by decide +kernel
theorem dX14_factOf_51 : decode cX14_factOf 51 = .ok (.iload_n 1, 1) := by decide +kernel
theorem dX14_factOf_52 : decode cX14_factOf 52 = .ok (.iaload, 1) := by decide +kernel
theorem dX14_factOf_53 : decode cX14_factOf 53 = .ok (.isub, 1) := by decide +kernel
theorem dX14_factOf_54 : decode cX14_factOf 54 = .ok (.sipush 365, 3) := by decide +kernel
theorem dX14_factOf_57 : decode cX14_factOf 57 = .ok (.idiv, 1) := by decide +kernel
theorem dX14_factOf_58 : decode cX14_factOf 58 = .ok (.ireturn, 1) := by decide +kernel
theorem dX14_factOf_59 : decode cX14_factOf 59 = .ok (.iload_n 2, 1) := by decide +kernel
theorem dX14_factOf_60 : decode cX14_factOf 60 = .ok (.aload_n 0, 1) := by decide +kernel
theorem dX14_factOf_61 : decode cX14_factOf 61 = .ok (.getfield 39, 3) := by decide +kernel
theorem dX14_factOf_64 : decode cX14_factOf 64 = .ok (.iload_n 1, 1) := by decide +kernel
theorem dX14_factOf_65 : decode cX14_factOf 65 = .ok (.iaload, 1) := by decide +kernel
theorem dX14_factOf_66 : decode cX14_factOf 66 = .ok (.if_icmp .ge 7, 3) := by decide +kernel
theorem dX14_factOf_69 : decode cX14_factOf 69 = .ok (.iconst 0, 1) := by decide +kernel
theorem dX14_factOf_70 : decode cX14_factOf 70 = .ok (.goto 15, 3) := by decide +kernel
theorem dX14_factOf_73 : decode cX14_factOf 73 = .ok (.iload_n 2, 1) := by decide +kernel
theorem dX14_factOf_74 : decode cX14_factOf 74 = .ok (.aload_n 0, 1) := by decide +kernel
theorem dX14_factOf_75 : decode cX14_factOf 75 = .ok (.getfield 39, 3) := by decide +kernel
theorem dX14_factOf_78 : decode cX14_factOf 78 = .ok (.iload_n 1, 1) := by decide +kernel
theorem dX14_factOf_79 : decode cX14_factOf 79 = .ok (.iaload, 1) := by decide +kernel
theorem dX14_factOf_80 : decode cX14_factOf 80 = .ok (.isub, 1) := by decide +kernel
theorem dX14_factOf_81 : decode cX14_factOf 81 = .ok (.sipush 365, 3) := by decide +kernel
theorem dX14_factOf_84 : decode cX14_factOf 84 = .ok (.idiv, 1) := by decide +kernel
theorem dX14_factOf_85 : decode cX14_factOf 85 = .ok (.ireturn, 1) := by decide +kernel
theorem dX14_factOf_86 : decode cX14_factOf 86 = .ok (.iconst (-1), 1) := by decide +kernel
theorem dX14_factOf_87 : decode cX14_factOf 87 = .ok (.istore 4, 2) := by decide +kernel
theorem dX14_factOf_89 : decode cX14_factOf 89 = .ok (.bipush 6, 2) := by decide +kernel
theorem dX14_factOf_91 : decode cX14_factOf 91 = .ok (.iload_n 1, 1) := by decide +kernel
theorem dX14_factOf_92 : decode cX14_factOf 92 = .ok (.imul, 1) := by decide +kernel
theorem dX14_factOf_93 : decode cX14_factOf 93 = .ok (.istore 5, 2) := by decide +kernel
theorem dX14_factOf_95 : decode cX14_factOf 95 = .ok (.iload 5, 2) := by decide +kernel
theorem dX14_factOf_97 : decode cX14_factOf 97 = .ok (.bipush 6, 2) := by decide +kernel
theorem dX14_factOf_99 : decode cX14_factOf 99 = .ok (.iload_n 1, 1) := by decide +kernel
theorem dX14_factOf_100 : decode cX14_factOf 100 = .ok (.imul, 1) := by decide +kernel
theorem dX14_factOf_101 : decode cX14_factOf 101 = .ok (.aload_n 0, 1) := by decide +kernel
theorem dX14_factOf_102 : decode cX14_factOf 102 = .ok (.getfield 57, 3) := by decide +kernel
theorem dX14_factOf_105 : decode cX14_factOf 105 = .ok (.iload_n 1, 1) := by decide +kernel
theorem dX14_factOf_106 : decode cX14_factOf 106 = .ok (.iaload, 1) := by decide +kernel
theorem dX14_factOf_107 : decode cX14_factOf 107 = .ok (.iadd, 1) := by decide +kernel
theorem dX14_factOf_108 : decode cX14_factOf 108 = .ok (.if_icmp .ge 47, 3) := by decide +kernel
theorem dX14_factOf_111 : decode cX14_factOf 111 = .ok (.aload_n 0, 1) := by decide +kernel
theorem dX14_factOf_112 : decode cX14_factOf 112 = .ok (.getfield 64, 3) := by decide +kernel
theorem dX14_factOf_115 : decode cX14_factOf 115 = .ok (.iload 5, 2) := by decide +kernel
theorem dX14_factOf_117 : decode cX14_factOf 117 = .ok (.iaload, 1) := by decide +kernel
theorem dX14_factOf_118 : decode cX14_factOf 118 = .ok (.iload_n 2, 1) := by decide +kernel
theorem dX14_factOf_119 : decode cX14_factOf 119 = .ok (.if_icmp .gt 30, 3) := by decide +kernel
theorem dX14_factOf_122 : decode cX14_factOf 122 = .ok (.iload 4, 2) := by decide +kernel
theorem dX14_factOf_124 : decode cX14_factOf 124 = .ok (.iconst (-1), 1) := by decide +kernel
theorem dX14_factOf_125 : decode cX14_factOf 125 = .ok (.if_icmp .eq 20, 3) := by decide +kernel
theorem dX14_factOf_128 : decode cX14_factOf 128 = .ok (.aload_n 0, 1) := by decide +kernel
theorem dX14_factOf_129 : decode cX14_factOf 129 = .ok (.getfield 64, 3) := by decide +kernel
theorem dX14_factOf_132 : decode cX14_factOf 132 = .ok (.iload 5, 2) := by decide +kernel
theorem dX14_factOf_134 : decode cX14_factOf 134 = .ok (.iaload, 1) := by decide +kernel
theorem dX14_factOf_135 : decode cX14_factOf 135 = .ok (.aload_n 0, 1) := by decide +kernel
theorem dX14_factOf_136 : decode cX14_factOf 136 = .ok (.getfield 64, 3) := by decide +kernel
theorem dX14_factOf_139 : decode cX14_factOf 139 = .ok (.iload 4, 2) := by decide +kernel
theorem dX14_factOf_141 : decode cX14_factOf 141 = .ok (.iaload, 1) := by decide +kernel
theorem dX14_factOf_142 : decode cX14_factOf 142 = .ok (.if_icmp .lt 7, 3) := by decide +kernel
theorem dX14_factOf_145 : decode cX14_factOf 145 = .ok (.iload 5, 2) := by decide +kernel
theorem dX14_factOf_147 : decode cX14_factOf 147 = .ok (.istore 4, 2) := by decide +kernel
theorem dX14_factOf_149 : decode cX14_factOf 149 = .ok (.iinc 5 1, 3) := by decide +kernel
theorem dX14_factOf_152 : decode cX14_factOf 152 = .ok (.goto (-57), 3) := by decide +kernel
theorem dX14_factOf_155 : decode cX14_factOf 155 = .ok (.iload 4, 2) := by decide +kernel
theorem dX14_factOf_157 : decode cX14_factOf 157 = .ok (.iconst (-1), 1) := by decide +kernel
theorem dX14_factOf_158 : decode cX14_factOf 158 = .ok (.if_icmp .ne 7, 3) := by decide +kernel
theorem dX14_factOf_161 : decode cX14_factOf 161 = .ok (.iconst 0, 1) := by decide +kernel
theorem dX14_factOf_162 : decode cX14_factOf 162 = .ok (.goto 10, 3) := by decide +kernel
theorem dX14_factOf_165 : decode cX14_factOf 165 = .ok (.aload_n 0, 1) := by decide +kernel
theorem dX14_factOf_166 : decode cX14_factOf 166 = .ok (.getfield 67, 3) := by decide +kernel
theorem dX14_factOf_169 : decode cX14_factOf 169 = .ok (.iload 4, 2) := by decide +kernel
theorem dX14_factOf_171 : decode cX14_factOf 171 = .ok (.iaload, 1) := by decide +kernel
theorem dX14_factOf_172 : decode cX14_factOf 172 = .ok (.ireturn, 1) := by decide +kernel
theorem dX14_factOf_173 : decode cX14_factOf 173 = .ok (.aload_n 0, 1) := by decide +kernel
theorem dX14_factOf_174 : decode cX14_factOf 174 = .ok (.getfield 60, 3) := by decide +kernel
theorem dX14_factOf_177 : decode cX14_factOf 177 = .ok (.iload_n 1, 1) := by decide +kernel
theorem dX14_factOf_178 : decode cX14_factOf 178 = .ok (.baload, 1) := by decide +kernel
theorem dX14_factOf_179 : decode cX14_factOf 179 = .ok (.ifCond .eq 7, 3) := by decide +kernel
theorem dX14_factOf_182 : decode cX14_factOf 182 = .ok (.iconst 1, 1) := by decide +kernel
theorem dX14_factOf_183 : decode cX14_factOf 183 = .ok (.goto 4, 3) := by decide +kernel
theorem dX14_factOf_186 : decode cX14_factOf 186 = .ok (.iconst 0, 1) := by decide +kernel
theorem dX14_factOf_187 : decode cX14_factOf 187 = .ok (.ireturn, 1) := by decide +kernel
theorem dX14_factOf_188 : decode cX14_factOf 188 = .ok (.iconst 0, 1) := by decide +kernel
theorem dX14_factOf_189 : decode cX14_factOf 189 = .ok (.iload_n 2, 1) := by decide +kernel
theorem dX14_factOf_190 : decode cX14_factOf 190 = .ok (.aload_n 0, 1) := by decide +kernel
theorem dX14_factOf_191 : decode cX14_factOf 191 = .ok (.getfield 42, 3) := by decide +kernel
theorem dX14_factOf_194 : decode cX14_factOf 194 = .ok (.iload_n 1, 1) := by decide +kernel
theorem dX14_factOf_195 : decode cX14_factOf 195 = .ok (.iaload, 1) := by decide +kernel
theorem dX14_factOf_196 : decode cX14_factOf 196 = .ok (.isub, 1) := by decide +kernel
theorem dX14_factOf_197 : decode cX14_factOf 197 = .ok (.invokestatic 318, 3) := by decide +kernel
theorem dX14_factOf_200 : decode cX14_factOf 200 = .ok (.ireturn, 1) := by decide +kernel
theorem dX14_fact_0 : decode cX14_fact 0 = .ok (.aload_n 0, 1) := by decide +kernel
theorem dX14_fact_1 : decode cX14_fact 1 = .ok (.iconst 0, 1) := by decide +kernel
theorem dX14_fact_2 : decode cX14_fact 2 = .ok (.putfield 112, 3) := by decide +kernel
theorem dX14_fact_5 : decode cX14_fact 5 = .ok (.aload_n 0, 1) := by decide +kernel
theorem dX14_fact_6 : decode cX14_fact 6 = .ok (.iload_n 1, 1) := by decide +kernel
theorem dX14_fact_7 : decode cX14_fact 7 = .ok (.invokevirtual 315, 3) := by decide +kernel
theorem dX14_fact_10 : decode cX14_fact 10 = .ok (.ifCond .eq 29, 3) := by decide +kernel
theorem dX14_fact_13 : decode cX14_fact 13 = .ok (.iload_n 2, 1) := by decide +kernel
theorem dX14_fact_14 : decode cX14_fact 14 = .ok (.invokestatic 277, 3) := by decide +kernel
theorem dX14_fact_17 : decode cX14_fact 17 = .ok (.ifCond .eq 22, 3) := by decide +kernel
theorem dX14_fact_20 : decode cX14_fact 20 = .ok (.iload_n 3, 1) := by decide +kernel
theorem dX14_fact_21 : decode cX14_fact 21 = .ok (.iconst 0, 1) := by decide +kernel
theorem dX14_fact_22 : decode cX14_fact 22 = .ok (.iconst 4, 1) := by decide +kernel
theorem dX14_fact_23 : decode cX14_fact 23 = .ok (.invokestatic 231, 3) := by decide +kernel
theorem dX14_fact_26 : decode cX14_fact 26 = .ok (.ifCond .eq 13, 3) := by decide +kernel
theorem dX14_fact_29 : decode cX14_fact 29 = .ok (.aload_n 0, 1) := by decide +kernel
theorem dX14_fact_30 : decode cX14_fact 30 = .ok (.iload_n 1, 1) := by decide +kernel
theorem dX14_fact_31 : decode cX14_fact 31 = .ok (.iload_n 2, 1) := by decide +kernel
theorem dX14_fact_32 : decode cX14_fact 32 = .ok (.iload_n 3, 1) := by decide +kernel
theorem dX14_fact_33 : decode cX14_fact 33 = .ok (.invokevirtual 323, 3) := by decide +kernel
theorem dX14_fact_36 : decode cX14_fact 36 = .ok (.goto 4, 3) := by decide +kernel
theorem dX14_fact_39 : decode cX14_fact 39 = .ok (.iconst (-1), 1) := by decide +kernel
theorem dX14_fact_40 : decode cX14_fact 40 = .ok (.ireturn, 1) := by decide +kernel
theorem dX14_holds_0 : decode cX14_holds 0 = .ok (.aload_n 0, 1) := by decide +kernel
theorem dX14_holds_1 : decode cX14_holds 1 = .ok (.getfield 15, 3) := by decide +kernel
theorem dX14_holds_4 : decode cX14_holds 4 = .ok (.aload_n 0, 1) := by decide +kernel
theorem dX14_holds_5 : decode cX14_holds 5 = .ok (.getfield 295, 3) := by decide +kernel
theorem dX14_holds_8 : decode cX14_holds 8 = .ok (.aaload, 1) := by decide +kernel
theorem dX14_holds_9 : decode cX14_holds 9 = .ok (.astore_n 3, 1) := by decide +kernel
theorem dX14_holds_10 : decode cX14_holds 10 = .ok (.iconst 0, 1) := by decide +kernel
theorem dX14_holds_11 : decode cX14_holds 11 = .ok (.istore 4, 2) := by decide +kernel
theorem dX14_holds_13 : decode cX14_holds 13 = .ok (.aload_n 3, 1) := by decide +kernel
theorem dX14_holds_14 : decode cX14_holds 14 = .ok (.getfield 235, 3) := by decide +kernel
theorem dX14_holds_17 : decode cX14_holds 17 = .ok (.aload_n 0, 1) := by decide +kernel
theorem dX14_holds_18 : decode cX14_holds 18 = .ok (.getfield 298, 3) := by decide +kernel
theorem dX14_holds_21 : decode cX14_holds 21 = .ok (.iaload, 1) := by decide +kernel
theorem dX14_holds_22 : decode cX14_holds 22 = .ok (.istore 5, 2) := by decide +kernel
theorem dX14_holds_24 : decode cX14_holds 24 = .ok (.iload 5, 2) := by decide +kernel
theorem dX14_holds_26 : decode cX14_holds 26 = .ok (.aload_n 3, 1) := by decide +kernel
theorem dX14_holds_27 : decode cX14_holds 27 = .ok (.getfield 242, 3) := by decide +kernel
theorem dX14_holds_30 : decode cX14_holds 30 = .ok (.aload_n 0, 1) := by decide +kernel
theorem dX14_holds_31 : decode cX14_holds 31 = .ok (.getfield 298, 3) := by decide +kernel
theorem dX14_holds_34 : decode cX14_holds 34 = .ok (.iaload, 1) := by decide +kernel
theorem dX14_holds_35 : decode cX14_holds 35 = .ok (.if_icmp .ge 262, 3) := by decide +kernel
theorem dX14_holds_38 : decode cX14_holds 38 = .ok (.aload_n 3, 1) := by decide +kernel
theorem dX14_holds_39 : decode cX14_holds 39 = .ok (.getfield 327, 3) := by decide +kernel
theorem dX14_holds_42 : decode cX14_holds 42 = .ok (.iload 5, 2) := by decide +kernel
theorem dX14_holds_44 : decode cX14_holds 44 = .ok (.iaload, 1) := by decide +kernel
theorem dX14_holds_45 : decode cX14_holds 45 = .ok (.tableswitch 140 3 5 #[27, 56, 98], 27) := by decide +kernel
theorem dX14_holds_72 : decode cX14_holds 72 = .ok (.aload_n 0, 1) := by decide +kernel
theorem dX14_holds_73 : decode cX14_holds 73 = .ok (.getfield 70, 3) := by decide +kernel
theorem dX14_holds_76 : decode cX14_holds 76 = .ok (.iload 4, 2) := by decide +kernel
theorem dX14_holds_78 : decode cX14_holds 78 = .ok (.iconst 1, 1) := by decide +kernel
theorem dX14_holds_79 : decode cX14_holds 79 = .ok (.isub, 1) := by decide +kernel
theorem dX14_holds_80 : decode cX14_holds 80 = .ok (.aload_n 0, 1) := by decide +kernel
theorem dX14_holds_81 : decode cX14_holds 81 = .ok (.getfield 70, 3) := by decide +kernel
theorem dX14_holds_84 : decode cX14_holds 84 = .ok (.iload 4, 2) := by decide +kernel
theorem dX14_holds_86 : decode cX14_holds 86 = .ok (.iconst 1, 1) := by decide +kernel
theorem dX14_holds_87 : decode cX14_holds 87 = .ok (.isub, 1) := by decide +kernel
theorem dX14_holds_88 : decode cX14_holds 88 = .ok (.baload, 1) := by decide +kernel
theorem dX14_holds_89 : decode cX14_holds 89 = .ok (.ifCond .ne 7, 3) := by decide +kernel
theorem dX14_holds_92 : decode cX14_holds 92 = .ok (.iconst 1, 1) := by decide +kernel
theorem dX14_holds_93 : decode cX14_holds 93 = .ok (.goto 4, 3) := by decide +kernel
theorem dX14_holds_96 : decode cX14_holds 96 = .ok (.iconst 0, 1) := by decide +kernel
theorem dX14_holds_97 : decode cX14_holds 97 = .ok (.bastore, 1) := by decide +kernel
theorem dX14_holds_98 : decode cX14_holds 98 = .ok (.goto 193, 3) := by decide +kernel
theorem dX14_holds_101 : decode cX14_holds 101 = .ok (.iinc 4 (-1), 3) := by decide +kernel
theorem dX14_holds_104 : decode cX14_holds 104 = .ok (.aload_n 0, 1) := by decide +kernel
theorem dX14_holds_105 : decode cX14_holds 105 = .ok (.getfield 70, 3) := by decide +kernel
theorem dX14_holds_108 : decode cX14_holds 108 = .ok (.iload 4, 2) := by decide +kernel
theorem dX14_holds_110 : decode cX14_holds 110 = .ok (.iconst 1, 1) := by decide +kernel
theorem dX14_holds_111 : decode cX14_holds 111 = .ok (.isub, 1) := by decide +kernel
theorem dX14_holds_112 : decode cX14_holds 112 = .ok (.aload_n 0, 1) := by decide +kernel
theorem dX14_holds_113 : decode cX14_holds 113 = .ok (.getfield 70, 3) := by decide +kernel
theorem dX14_holds_116 : decode cX14_holds 116 = .ok (.iload 4, 2) := by decide +kernel
theorem dX14_holds_118 : decode cX14_holds 118 = .ok (.iconst 1, 1) := by decide +kernel
theorem dX14_holds_119 : decode cX14_holds 119 = .ok (.isub, 1) := by decide +kernel
theorem dX14_holds_120 : decode cX14_holds 120 = .ok (.baload, 1) := by decide +kernel
theorem dX14_holds_121 : decode cX14_holds 121 = .ok (.ifCond .eq 17, 3) := by decide +kernel
theorem dX14_holds_124 : decode cX14_holds 124 = .ok (.aload_n 0, 1) := by decide +kernel
theorem dX14_holds_125 : decode cX14_holds 125 = .ok (.getfield 70, 3) := by decide +kernel
theorem dX14_holds_128 : decode cX14_holds 128 = .ok (.iload 4, 2) := by decide +kernel
theorem dX14_holds_130 : decode cX14_holds 130 = .ok (.baload, 1) := by decide +kernel
theorem dX14_holds_131 : decode cX14_holds 131 = .ok (.ifCond .eq 7, 3) := by decide +kernel
theorem dX14_holds_134 : decode cX14_holds 134 = .ok (.iconst 1, 1) := by decide +kernel
theorem dX14_holds_135 : decode cX14_holds 135 = .ok (.goto 4, 3) := by decide +kernel
theorem dX14_holds_138 : decode cX14_holds 138 = .ok (.iconst 0, 1) := by decide +kernel
theorem dX14_holds_139 : decode cX14_holds 139 = .ok (.bastore, 1) := by decide +kernel
theorem dX14_holds_140 : decode cX14_holds 140 = .ok (.goto 151, 3) := by decide +kernel
theorem dX14_holds_143 : decode cX14_holds 143 = .ok (.iinc 4 (-1), 3) := by decide +kernel
theorem dX14_holds_146 : decode cX14_holds 146 = .ok (.aload_n 0, 1) := by decide +kernel
theorem dX14_holds_147 : decode cX14_holds 147 = .ok (.getfield 70, 3) := by decide +kernel
theorem dX14_holds_150 : decode cX14_holds 150 = .ok (.iload 4, 2) := by decide +kernel
theorem dX14_holds_152 : decode cX14_holds 152 = .ok (.iconst 1, 1) := by decide +kernel
theorem dX14_holds_153 : decode cX14_holds 153 = .ok (.isub, 1) := by decide +kernel
theorem dX14_holds_154 : decode cX14_holds 154 = .ok (.aload_n 0, 1) := by decide +kernel
theorem dX14_holds_155 : decode cX14_holds 155 = .ok (.getfield 70, 3) := by decide +kernel
theorem dX14_holds_158 : decode cX14_holds 158 = .ok (.iload 4, 2) := by decide +kernel
theorem dX14_holds_160 : decode cX14_holds 160 = .ok (.iconst 1, 1) := by decide +kernel
theorem dX14_holds_161 : decode cX14_holds 161 = .ok (.isub, 1) := by decide +kernel
theorem dX14_holds_162 : decode cX14_holds 162 = .ok (.baload, 1) := by decide +kernel
theorem dX14_holds_163 : decode cX14_holds 163 = .ok (.ifCond .ne 13, 3) := by decide +kernel
theorem dX14_holds_166 : decode cX14_holds 166 = .ok (.aload_n 0, 1) := by decide +kernel
theorem dX14_holds_167 : decode cX14_holds 167 = .ok (.getfield 70, 3) := by decide +kernel
theorem dX14_holds_170 : decode cX14_holds 170 = .ok (.iload 4, 2) := by decide +kernel
theorem dX14_holds_172 : decode cX14_holds 172 = .ok (.baload, 1) := by decide +kernel
theorem dX14_holds_173 : decode cX14_holds 173 = .ok (.ifCond .eq 7, 3) := by decide +kernel
theorem dX14_holds_176 : decode cX14_holds 176 = .ok (.iconst 1, 1) := by decide +kernel
theorem dX14_holds_177 : decode cX14_holds 177 = .ok (.goto 4, 3) := by decide +kernel
theorem dX14_holds_180 : decode cX14_holds 180 = .ok (.iconst 0, 1) := by decide +kernel
theorem dX14_holds_181 : decode cX14_holds 181 = .ok (.bastore, 1) := by decide +kernel
theorem dX14_holds_182 : decode cX14_holds 182 = .ok (.goto 109, 3) := by decide +kernel
theorem dX14_holds_185 : decode cX14_holds 185 = .ok (.aload_n 0, 1) := by decide +kernel
theorem dX14_holds_186 : decode cX14_holds 186 = .ok (.iload_n 1, 1) := by decide +kernel
theorem dX14_holds_187 : decode cX14_holds 187 = .ok (.iload_n 2, 1) := by decide +kernel
theorem dX14_holds_188 : decode cX14_holds 188 = .ok (.aload_n 3, 1) := by decide +kernel
theorem dX14_holds_189 : decode cX14_holds 189 = .ok (.getfield 330, 3) := by decide +kernel
theorem dX14_holds_192 : decode cX14_holds 192 = .ok (.iload 5, 2) := by decide +kernel
theorem dX14_holds_194 : decode cX14_holds 194 = .ok (.iaload, 1) := by decide +kernel
theorem dX14_holds_195 : decode cX14_holds 195 = .ok (.invokevirtual 323, 3) := by decide +kernel
theorem dX14_holds_198 : decode cX14_holds 198 = .ok (.istore 6, 2) := by decide +kernel
theorem dX14_holds_200 : decode cX14_holds 200 = .ok (.aload_n 0, 1) := by decide +kernel
theorem dX14_holds_201 : decode cX14_holds 201 = .ok (.getfield 70, 3) := by decide +kernel
theorem dX14_holds_204 : decode cX14_holds 204 = .ok (.iload 4, 2) := by decide +kernel
theorem dX14_holds_206 : decode cX14_holds 206 = .ok (.aload_n 3, 1) := by decide +kernel
theorem dX14_holds_207 : decode cX14_holds 207 = .ok (.getfield 327, 3) := by decide +kernel
theorem dX14_holds_210 : decode cX14_holds 210 = .ok (.iload 5, 2) := by decide +kernel
theorem dX14_holds_212 : decode cX14_holds 212 = .ok (.iaload, 1) := by decide +kernel
theorem dX14_holds_213 : decode cX14_holds 213 = .ok (.ifCond .ne 23, 3) := by decide +kernel
theorem dX14_holds_216 : decode cX14_holds 216 = .ok (.iload 6, 2) := by decide +kernel
theorem dX14_holds_218 : decode cX14_holds 218 = .ok (.aload_n 3, 1) := by decide +kernel
theorem dX14_holds_219 : decode cX14_holds 219 = .ok (.getfield 333, 3) := by decide +kernel
theorem dX14_holds_222 : decode cX14_holds 222 = .ok (.iload 5, 2) := by decide +kernel
theorem dX14_holds_224 : decode cX14_holds 224 = .ok (.iaload, 1) := by decide +kernel
theorem dX14_holds_225 : decode cX14_holds 225 = .ok (.if_icmp .ge 7, 3) := by decide +kernel
theorem dX14_holds_228 : decode cX14_holds 228 = .ok (.iconst 1, 1) := by decide +kernel
theorem dX14_holds_229 : decode cX14_holds 229 = .ok (.goto 55, 3) := by decide +kernel
theorem dX14_holds_232 : decode cX14_holds 232 = .ok (.iconst 0, 1) := by decide +kernel
theorem dX14_holds_233 : decode cX14_holds 233 = .ok (.goto 51, 3) := by decide +kernel
theorem dX14_holds_236 : decode cX14_holds 236 = .ok (.aload_n 3, 1) := by decide +kernel
theorem dX14_holds_237 : decode cX14_holds 237 = .ok (.getfield 327, 3) := by decide +kernel
theorem dX14_holds_240 : decode cX14_holds 240 = .ok (.iload 5, 2) := by decide +kernel
theorem dX14_holds_242 : decode cX14_holds 242 = .ok (.iaload, 1) := by decide +kernel
theorem dX14_holds_243 : decode cX14_holds 243 = .ok (.iconst 1, 1) := by decide +kernel
theorem dX14_holds_244 : decode cX14_holds 244 = .ok (.if_icmp .ne 23, 3) := by decide +kernel
theorem dX14_holds_247 : decode cX14_holds 247 = .ok (.iload 6, 2) := by decide +kernel
theorem dX14_holds_249 : decode cX14_holds 249 = .ok (.aload_n 3, 1) := by decide +kernel
theorem dX14_holds_250 : decode cX14_holds 250 = .ok (.getfield 333, 3) := by decide +kernel
theorem dX14_holds_253 : decode cX14_holds 253 = .ok (.iload 5, 2) := by decide +kernel
theorem dX14_holds_255 : decode cX14_holds 255 = .ok (.iaload, 1) := by decide +kernel
theorem dX14_holds_256 : decode cX14_holds 256 = .ok (.if_icmp .le 7, 3) := by decide +kernel
theorem dX14_holds_259 : decode cX14_holds 259 = .ok (.iconst 1, 1) := by decide +kernel
theorem dX14_holds_260 : decode cX14_holds 260 = .ok (.goto 24, 3) := by decide +kernel
theorem dX14_holds_263 : decode cX14_holds 263 = .ok (.iconst 0, 1) := by decide +kernel
theorem dX14_holds_264 : decode cX14_holds 264 = .ok (.goto 20, 3) := by decide +kernel
theorem dX14_holds_267 : decode cX14_holds 267 = .ok (.iload 6, 2) := by decide +kernel
theorem dX14_holds_269 : decode cX14_holds 269 = .ok (.aload_n 3, 1) := by decide +kernel
theorem dX14_holds_270 : decode cX14_holds 270 = .ok (.getfield 333, 3) := by decide +kernel
theorem dX14_holds_273 : decode cX14_holds 273 = .ok (.iload 5, 2) := by decide +kernel
theorem dX14_holds_275 : decode cX14_holds 275 = .ok (.iaload, 1) := by decide +kernel
theorem dX14_holds_276 : decode cX14_holds 276 = .ok (.if_icmp .ne 7, 3) := by decide +kernel
theorem dX14_holds_279 : decode cX14_holds 279 = .ok (.iconst 1, 1) := by decide +kernel
theorem dX14_holds_280 : decode cX14_holds 280 = .ok (.goto 4, 3) := by decide +kernel
theorem dX14_holds_283 : decode cX14_holds 283 = .ok (.iconst 0, 1) := by decide +kernel
theorem dX14_holds_284 : decode cX14_holds 284 = .ok (.bastore, 1) := by decide +kernel
theorem dX14_holds_285 : decode cX14_holds 285 = .ok (.iinc 4 1, 3) := by decide +kernel
theorem dX14_holds_288 : decode cX14_holds 288 = .ok (.goto 3, 3) := by decide +kernel
theorem dX14_holds_291 : decode cX14_holds 291 = .ok (.iinc 5 1, 3) := by decide +kernel
theorem dX14_holds_294 : decode cX14_holds 294 = .ok (.goto (-270), 3) := by decide +kernel
theorem dX14_holds_297 : decode cX14_holds 297 = .ok (.aload_n 0, 1) := by decide +kernel
theorem dX14_holds_298 : decode cX14_holds 298 = .ok (.getfield 70, 3) := by decide +kernel
theorem dX14_holds_301 : decode cX14_holds 301 = .ok (.iconst 0, 1) := by decide +kernel
theorem dX14_holds_302 : decode cX14_holds 302 = .ok (.baload, 1) := by decide +kernel
theorem dX14_holds_303 : decode cX14_holds 303 = .ok (.ireturn, 1) := by decide +kernel
theorem dX14_barsOf_0 : decode cX14_barsOf 0 = .ok (.iconst 1, 1) := by decide +kernel
theorem dX14_barsOf_1 : decode cX14_barsOf 1 = .ok (.istore 4, 2) := by decide +kernel
theorem dX14_barsOf_3 : decode cX14_barsOf 3 = .ok (.iload 4, 2) := by decide +kernel
theorem dX14_barsOf_5 : decode cX14_barsOf 5 = .ok (.bipush 12, 2) := by decide +kernel
theorem dX14_barsOf_7 : decode cX14_barsOf 7 = .ok (.if_icmp .gt 32, 3) := by decide +kernel
theorem dX14_barsOf_10 : decode cX14_barsOf 10 = .ok (.aload_n 0, 1) := by decide +kernel
theorem dX14_barsOf_11 : decode cX14_barsOf 11 = .ok (.iload_n 2, 1) := by decide +kernel
theorem dX14_barsOf_12 : decode cX14_barsOf 12 = .ok (.iload 4, 2) := by decide +kernel
theorem dX14_barsOf_14 : decode cX14_barsOf 14 = .ok (.iload_n 3, 1) := by decide +kernel
theorem dX14_barsOf_15 : decode cX14_barsOf 15 = .ok (.invokevirtual 301, 3) := by decide +kernel
theorem dX14_barsOf_18 : decode cX14_barsOf 18 = .ok (.ifCond .eq 15, 3) := by decide +kernel
theorem dX14_barsOf_21 : decode cX14_barsOf 21 = .ok (.aload_n 0, 1) := by decide +kernel
theorem dX14_barsOf_22 : decode cX14_barsOf 22 = .ok (.iload_n 1, 1) := by decide +kernel
theorem dX14_barsOf_23 : decode cX14_barsOf 23 = .ok (.iload_n 3, 1) := by decide +kernel
theorem dX14_barsOf_24 : decode cX14_barsOf 24 = .ok (.invokevirtual 336, 3) := by decide +kernel
theorem dX14_barsOf_27 : decode cX14_barsOf 27 = .ok (.ifCond .ne 6, 3) := by decide +kernel
theorem dX14_barsOf_30 : decode cX14_barsOf 30 = .ok (.iload 4, 2) := by decide +kernel
theorem dX14_barsOf_32 : decode cX14_barsOf 32 = .ok (.ireturn, 1) := by decide +kernel
theorem dX14_barsOf_33 : decode cX14_barsOf 33 = .ok (.iinc 4 1, 3) := by decide +kernel
theorem dX14_barsOf_36 : decode cX14_barsOf 36 = .ok (.goto (-33), 3) := by decide +kernel
theorem dX14_barsOf_39 : decode cX14_barsOf 39 = .ok (.bipush (-2), 2) := by decide +kernel
theorem dX14_barsOf_41 : decode cX14_barsOf 41 = .ok (.ireturn, 1) := by decide +kernel
theorem dX14_mayCome_0 : decode cX14_mayCome 0 = .ok (.aload_n 0, 1) := by decide +kernel
theorem dX14_mayCome_1 : decode cX14_mayCome 1 = .ok (.iload_n 2, 1) := by decide +kernel
theorem dX14_mayCome_2 : decode cX14_mayCome 2 = .ok (.iload_n 3, 1) := by decide +kernel
theorem dX14_mayCome_3 : decode cX14_mayCome 3 = .ok (.invokevirtual 304, 3) := by decide +kernel
theorem dX14_mayCome_6 : decode cX14_mayCome 6 = .ok (.ifCond .le 49, 3) := by decide +kernel
theorem dX14_mayCome_9 : decode cX14_mayCome 9 = .ok (.aload_n 0, 1) := by decide +kernel
theorem dX14_mayCome_10 : decode cX14_mayCome 10 = .ok (.getfield 42, 3) := by decide +kernel
theorem dX14_mayCome_13 : decode cX14_mayCome 13 = .ok (.iload_n 1, 1) := by decide +kernel
theorem dX14_mayCome_14 : decode cX14_mayCome 14 = .ok (.iaload, 1) := by decide +kernel
theorem dX14_mayCome_15 : decode cX14_mayCome 15 = .ok (.iload_n 3, 1) := by decide +kernel
theorem dX14_mayCome_16 : decode cX14_mayCome 16 = .ok (.if_icmp .gt 39, 3) := by decide +kernel
theorem dX14_mayCome_19 : decode cX14_mayCome 19 = .ok (.aload_n 0, 1) := by decide +kernel
theorem dX14_mayCome_20 : decode cX14_mayCome 20 = .ok (.getfield 45, 3) := by decide +kernel
theorem dX14_mayCome_23 : decode cX14_mayCome 23 = .ok (.iload_n 1, 1) := by decide +kernel
theorem dX14_mayCome_24 : decode cX14_mayCome 24 = .ok (.iaload, 1) := by decide +kernel
theorem dX14_mayCome_25 : decode cX14_mayCome 25 = .ok (.iconst (-1), 1) := by decide +kernel
theorem dX14_mayCome_26 : decode cX14_mayCome 26 = .ok (.if_icmp .eq 13, 3) := by decide +kernel
theorem dX14_mayCome_29 : decode cX14_mayCome 29 = .ok (.aload_n 0, 1) := by decide +kernel
theorem dX14_mayCome_30 : decode cX14_mayCome 30 = .ok (.getfield 45, 3) := by decide +kernel
theorem dX14_mayCome_33 : decode cX14_mayCome 33 = .ok (.iload_n 1, 1) := by decide +kernel
theorem dX14_mayCome_34 : decode cX14_mayCome 34 = .ok (.iaload, 1) := by decide +kernel
theorem dX14_mayCome_35 : decode cX14_mayCome 35 = .ok (.iload_n 3, 1) := by decide +kernel
theorem dX14_mayCome_36 : decode cX14_mayCome 36 = .ok (.if_icmp .le 19, 3) := by decide +kernel
theorem dX14_mayCome_39 : decode cX14_mayCome 39 = .ok (.aload_n 0, 1) := by decide +kernel
theorem dX14_mayCome_40 : decode cX14_mayCome 40 = .ok (.iload_n 1, 1) := by decide +kernel
theorem dX14_mayCome_41 : decode cX14_mayCome 41 = .ok (.iload_n 2, 1) := by decide +kernel
theorem dX14_mayCome_42 : decode cX14_mayCome 42 = .ok (.iload_n 3, 1) := by decide +kernel
theorem dX14_mayCome_43 : decode cX14_mayCome 43 = .ok (.invokevirtual 340, 3) := by decide +kernel
theorem dX14_mayCome_46 : decode cX14_mayCome 46 = .ok (.bipush (-2), 2) := by decide +kernel
theorem dX14_mayCome_48 : decode cX14_mayCome 48 = .ok (.if_icmp .ne 7, 3) := by decide +kernel
theorem dX14_mayCome_51 : decode cX14_mayCome 51 = .ok (.iconst 1, 1) := by decide +kernel
theorem dX14_mayCome_52 : decode cX14_mayCome 52 = .ok (.goto 4, 3) := by decide +kernel
theorem dX14_mayCome_55 : decode cX14_mayCome 55 = .ok (.iconst 0, 1) := by decide +kernel
theorem dX14_mayCome_56 : decode cX14_mayCome 56 = .ok (.ireturn, 1) := by decide +kernel
theorem dX14_isAsked_0 : decode cX14_isAsked 0 = .ok (.aload_n 0, 1) := by decide +kernel
theorem dX14_isAsked_1 : decode cX14_isAsked 1 = .ok (.iload_n 1, 1) := by decide +kernel
theorem dX14_isAsked_2 : decode cX14_isAsked 2 = .ok (.invokevirtual 315, 3) := by decide +kernel
theorem dX14_isAsked_5 : decode cX14_isAsked 5 = .ok (.ifCond .eq 22, 3) := by decide +kernel
theorem dX14_isAsked_8 : decode cX14_isAsked 8 = .ok (.aload_n 0, 1) := by decide +kernel
theorem dX14_isAsked_9 : decode cX14_isAsked 9 = .ok (.iload_n 2, 1) := by decide +kernel
theorem dX14_isAsked_10 : decode cX14_isAsked 10 = .ok (.invokevirtual 274, 3) := by decide +kernel
theorem dX14_isAsked_13 : decode cX14_isAsked 13 = .ok (.ifCond .eq 14, 3) := by decide +kernel
theorem dX14_isAsked_16 : decode cX14_isAsked 16 = .ok (.iload_n 3, 1) := by decide +kernel
theorem dX14_isAsked_17 : decode cX14_isAsked 17 = .ok (.invokestatic 277, 3) := by decide +kernel
theorem dX14_isAsked_20 : decode cX14_isAsked 20 = .ok (.ifCond .eq 7, 3) := by decide +kernel
theorem dX14_isAsked_23 : decode cX14_isAsked 23 = .ok (.iconst 1, 1) := by decide +kernel
theorem dX14_isAsked_24 : decode cX14_isAsked 24 = .ok (.goto 4, 3) := by decide +kernel
theorem dX14_isAsked_27 : decode cX14_isAsked 27 = .ok (.iconst 0, 1) := by decide +kernel
theorem dX14_isAsked_28 : decode cX14_isAsked 28 = .ok (.ireturn, 1) := by decide +kernel
theorem dX14_may_0 : decode cX14_may 0 = .ok (.aload_n 0, 1) := by decide +kernel
theorem dX14_may_1 : decode cX14_may 1 = .ok (.iconst 0, 1) := by decide +kernel
theorem dX14_may_2 : decode cX14_may 2 = .ok (.putfield 112, 3) := by decide +kernel
theorem dX14_may_5 : decode cX14_may 5 = .ok (.aload_n 0, 1) := by decide +kernel
theorem dX14_may_6 : decode cX14_may 6 = .ok (.iload_n 1, 1) := by decide +kernel
theorem dX14_may_7 : decode cX14_may 7 = .ok (.iload_n 2, 1) := by decide +kernel
theorem dX14_may_8 : decode cX14_may 8 = .ok (.iload_n 3, 1) := by decide +kernel
theorem dX14_may_9 : decode cX14_may 9 = .ok (.invokevirtual 343, 3) := by decide +kernel
theorem dX14_may_12 : decode cX14_may 12 = .ok (.ifCond .eq 21, 3) := by decide +kernel
theorem dX14_may_15 : decode cX14_may 15 = .ok (.aload_n 0, 1) := by decide +kernel
theorem dX14_may_16 : decode cX14_may 16 = .ok (.iload_n 1, 1) := by decide +kernel
theorem dX14_may_17 : decode cX14_may 17 = .ok (.iload_n 2, 1) := by decide +kernel
theorem dX14_may_18 : decode cX14_may 18 = .ok (.iload_n 3, 1) := by decide +kernel
theorem dX14_may_19 : decode cX14_may 19 = .ok (.invokevirtual 346, 3) := by decide +kernel
theorem dX14_may_22 : decode cX14_may 22 = .ok (.ifCond .eq 7, 3) := by decide +kernel
theorem dX14_may_25 : decode cX14_may 25 = .ok (.iconst 1, 1) := by decide +kernel
theorem dX14_may_26 : decode cX14_may 26 = .ok (.goto 8, 3) := by decide +kernel
theorem dX14_may_29 : decode cX14_may 29 = .ok (.iconst 0, 1) := by decide +kernel
theorem dX14_may_30 : decode cX14_may 30 = .ok (.goto 4, 3) := by decide +kernel
theorem dX14_may_33 : decode cX14_may 33 = .ok (.iconst (-1), 1) := by decide +kernel
theorem dX14_may_34 : decode cX14_may 34 = .ok (.ireturn, 1) := by decide +kernel
theorem dX14_bars_0 : decode cX14_bars 0 = .ok (.aload_n 0, 1) := by decide +kernel
theorem dX14_bars_1 : decode cX14_bars 1 = .ok (.iconst 0, 1) := by decide +kernel
theorem dX14_bars_2 : decode cX14_bars 2 = .ok (.putfield 112, 3) := by decide +kernel
theorem dX14_bars_5 : decode cX14_bars 5 = .ok (.aload_n 0, 1) := by decide +kernel
end
section
theorem dX14_bars_6 : decode cX14_bars 6 = .ok (.iload_n 1, 1) := by decide +kernel
theorem dX14_bars_7 : decode cX14_bars 7 = .ok (.iload_n 2, 1) := by decide +kernel
theorem dX14_bars_8 : decode cX14_bars 8 = .ok (.iload_n 3, 1) := by decide +kernel
theorem dX14_bars_9 : decode cX14_bars 9 = .ok (.invokevirtual 343, 3) := by decide +kernel
theorem dX14_bars_12 : decode cX14_bars 12 = .ok (.ifCond .eq 13, 3) := by decide +kernel
theorem dX14_bars_15 : decode cX14_bars 15 = .ok (.aload_n 0, 1) := by decide +kernel
theorem dX14_bars_16 : decode cX14_bars 16 = .ok (.iload_n 1, 1) := by decide +kernel
theorem dX14_bars_17 : decode cX14_bars 17 = .ok (.iload_n 2, 1) := by decide +kernel
theorem dX14_bars_18 : decode cX14_bars 18 = .ok (.iload_n 3, 1) := by decide +kernel
theorem dX14_bars_19 : decode cX14_bars 19 = .ok (.invokevirtual 340, 3) := by decide +kernel
theorem dX14_bars_22 : decode cX14_bars 22 = .ok (.goto 4, 3) := by decide +kernel
theorem dX14_bars_25 : decode cX14_bars 25 = .ok (.iconst (-1), 1) := by decide +kernel
theorem dX14_bars_26 : decode cX14_bars 26 = .ok (.ireturn, 1) := by decide +kernel
theorem dX14_orderOf_0 : decode cX14_orderOf 0 = .ok (.aload_n 0, 1) := by decide +kernel
theorem dX14_orderOf_1 : decode cX14_orderOf 1 = .ok (.iload_n 2, 1) := by decide +kernel
theorem dX14_orderOf_2 : decode cX14_orderOf 2 = .ok (.iconst 0, 1) := by decide +kernel
theorem dX14_orderOf_3 : decode cX14_orderOf 3 = .ok (.iload_n 3, 1) := by decide +kernel
theorem dX14_orderOf_4 : decode cX14_orderOf 4 = .ok (.invokevirtual 301, 3) := by decide +kernel
theorem dX14_orderOf_7 : decode cX14_orderOf 7 = .ok (.ifCond .ne 5, 3) := by decide +kernel
theorem dX14_orderOf_10 : decode cX14_orderOf 10 = .ok (.iconst 0, 1) := by decide +kernel
theorem dX14_orderOf_11 : decode cX14_orderOf 11 = .ok (.ireturn, 1) := by decide +kernel
theorem dX14_orderOf_12 : decode cX14_orderOf 12 = .ok (.aload_n 0, 1) := by decide +kernel
theorem dX14_orderOf_13 : decode cX14_orderOf 13 = .ok (.getfield 15, 3) := by decide +kernel
theorem dX14_orderOf_16 : decode cX14_orderOf 16 = .ok (.aload_n 0, 1) := by decide +kernel
theorem dX14_orderOf_17 : decode cX14_orderOf 17 = .ok (.getfield 295, 3) := by decide +kernel
theorem dX14_orderOf_20 : decode cX14_orderOf 20 = .ok (.aaload, 1) := by decide +kernel
theorem dX14_orderOf_21 : decode cX14_orderOf 21 = .ok (.astore 4, 2) := by decide +kernel
theorem dX14_orderOf_23 : decode cX14_orderOf 23 = .ok (.iconst 0, 1) := by decide +kernel
theorem dX14_orderOf_24 : decode cX14_orderOf 24 = .ok (.istore 5, 2) := by decide +kernel
theorem dX14_orderOf_26 : decode cX14_orderOf 26 = .ok (.iconst 4, 1) := by decide +kernel
theorem dX14_orderOf_27 : decode cX14_orderOf 27 = .ok (.aload_n 0, 1) := by decide +kernel
theorem dX14_orderOf_28 : decode cX14_orderOf 28 = .ok (.getfield 298, 3) := by decide +kernel
theorem dX14_orderOf_31 : decode cX14_orderOf 31 = .ok (.imul, 1) := by decide +kernel
theorem dX14_orderOf_32 : decode cX14_orderOf 32 = .ok (.istore 6, 2) := by decide +kernel
theorem dX14_orderOf_34 : decode cX14_orderOf 34 = .ok (.iload 6, 2) := by decide +kernel
theorem dX14_orderOf_36 : decode cX14_orderOf 36 = .ok (.iconst 4, 1) := by decide +kernel
theorem dX14_orderOf_37 : decode cX14_orderOf 37 = .ok (.aload_n 0, 1) := by decide +kernel
theorem dX14_orderOf_38 : decode cX14_orderOf 38 = .ok (.getfield 298, 3) := by decide +kernel
theorem dX14_orderOf_41 : decode cX14_orderOf 41 = .ok (.imul, 1) := by decide +kernel
theorem dX14_orderOf_42 : decode cX14_orderOf 42 = .ok (.aload 4, 2) := by decide +kernel
theorem dX14_orderOf_44 : decode cX14_orderOf 44 = .ok (.getfield 228, 3) := by decide +kernel
theorem dX14_orderOf_47 : decode cX14_orderOf 47 = .ok (.aload_n 0, 1) := by decide +kernel
theorem dX14_orderOf_48 : decode cX14_orderOf 48 = .ok (.getfield 298, 3) := by decide +kernel
theorem dX14_orderOf_51 : decode cX14_orderOf 51 = .ok (.iaload, 1) := by decide +kernel
theorem dX14_orderOf_52 : decode cX14_orderOf 52 = .ok (.iadd, 1) := by decide +kernel
theorem dX14_orderOf_53 : decode cX14_orderOf 53 = .ok (.if_icmp .ge 53, 3) := by decide +kernel
theorem dX14_orderOf_56 : decode cX14_orderOf 56 = .ok (.iload 5, 2) := by decide +kernel
theorem dX14_orderOf_58 : decode cX14_orderOf 58 = .ok (.aload 4, 2) := by decide +kernel
theorem dX14_orderOf_60 : decode cX14_orderOf 60 = .ok (.getfield 264, 3) := by decide +kernel
theorem dX14_orderOf_63 : decode cX14_orderOf 63 = .ok (.iload 6, 2) := by decide +kernel
theorem dX14_orderOf_65 : decode cX14_orderOf 65 = .ok (.iaload, 1) := by decide +kernel
theorem dX14_orderOf_66 : decode cX14_orderOf 66 = .ok (.aload 4, 2) := by decide +kernel
theorem dX14_orderOf_68 : decode cX14_orderOf 68 = .ok (.getfield 267, 3) := by decide +kernel
theorem dX14_orderOf_71 : decode cX14_orderOf 71 = .ok (.iload 6, 2) := by decide +kernel
theorem dX14_orderOf_73 : decode cX14_orderOf 73 = .ok (.iaload, 1) := by decide +kernel
theorem dX14_orderOf_74 : decode cX14_orderOf 74 = .ok (.iconst (-1), 1) := by decide +kernel
theorem dX14_orderOf_75 : decode cX14_orderOf 75 = .ok (.if_icmp .ne 7, 3) := by decide +kernel
theorem dX14_orderOf_78 : decode cX14_orderOf 78 = .ok (.iconst 1, 1) := by decide +kernel
theorem dX14_orderOf_79 : decode cX14_orderOf 79 = .ok (.goto 17, 3) := by decide +kernel
theorem dX14_orderOf_82 : decode cX14_orderOf 82 = .ok (.aload_n 0, 1) := by decide +kernel
theorem dX14_orderOf_83 : decode cX14_orderOf 83 = .ok (.iload_n 1, 1) := by decide +kernel
theorem dX14_orderOf_84 : decode cX14_orderOf 84 = .ok (.iload_n 3, 1) := by decide +kernel
theorem dX14_orderOf_85 : decode cX14_orderOf 85 = .ok (.aload 4, 2) := by decide +kernel
theorem dX14_orderOf_87 : decode cX14_orderOf 87 = .ok (.getfield 267, 3) := by decide +kernel
theorem dX14_orderOf_90 : decode cX14_orderOf 90 = .ok (.iload 6, 2) := by decide +kernel
theorem dX14_orderOf_92 : decode cX14_orderOf 92 = .ok (.iaload, 1) := by decide +kernel
theorem dX14_orderOf_93 : decode cX14_orderOf 93 = .ok (.invokevirtual 323, 3) := by decide +kernel
theorem dX14_orderOf_96 : decode cX14_orderOf 96 = .ok (.imul, 1) := by decide +kernel
theorem dX14_orderOf_97 : decode cX14_orderOf 97 = .ok (.iadd, 1) := by decide +kernel
theorem dX14_orderOf_98 : decode cX14_orderOf 98 = .ok (.istore 5, 2) := by decide +kernel
theorem dX14_orderOf_100 : decode cX14_orderOf 100 = .ok (.iinc 6 1, 3) := by decide +kernel
theorem dX14_orderOf_103 : decode cX14_orderOf 103 = .ok (.goto (-69), 3) := by decide +kernel
theorem dX14_orderOf_106 : decode cX14_orderOf 106 = .ok (.iload 5, 2) := by decide +kernel
theorem dX14_orderOf_108 : decode cX14_orderOf 108 = .ok (.ireturn, 1) := by decide +kernel
theorem dX14_order_0 : decode cX14_order 0 = .ok (.aload_n 0, 1) := by decide +kernel
theorem dX14_order_1 : decode cX14_order 1 = .ok (.iconst 0, 1) := by decide +kernel
theorem dX14_order_2 : decode cX14_order 2 = .ok (.putfield 112, 3) := by decide +kernel
theorem dX14_order_5 : decode cX14_order 5 = .ok (.aload_n 0, 1) := by decide +kernel
theorem dX14_order_6 : decode cX14_order 6 = .ok (.iload_n 1, 1) := by decide +kernel
theorem dX14_order_7 : decode cX14_order 7 = .ok (.iload_n 2, 1) := by decide +kernel
theorem dX14_order_8 : decode cX14_order 8 = .ok (.iload_n 3, 1) := by decide +kernel
theorem dX14_order_9 : decode cX14_order 9 = .ok (.invokevirtual 343, 3) := by decide +kernel
theorem dX14_order_12 : decode cX14_order 12 = .ok (.ifCond .eq 13, 3) := by decide +kernel
theorem dX14_order_15 : decode cX14_order 15 = .ok (.aload_n 0, 1) := by decide +kernel
theorem dX14_order_16 : decode cX14_order 16 = .ok (.iload_n 1, 1) := by decide +kernel
theorem dX14_order_17 : decode cX14_order 17 = .ok (.iload_n 2, 1) := by decide +kernel
theorem dX14_order_18 : decode cX14_order 18 = .ok (.iload_n 3, 1) := by decide +kernel
theorem dX14_order_19 : decode cX14_order 19 = .ok (.invokevirtual 349, 3) := by decide +kernel
theorem dX14_order_22 : decode cX14_order 22 = .ok (.goto 4, 3) := by decide +kernel
theorem dX14_order_25 : decode cX14_order 25 = .ok (.iconst (-1), 1) := by decide +kernel
theorem dX14_order_26 : decode cX14_order 26 = .ok (.ireturn, 1) := by decide +kernel
theorem dX14_list_0 : decode cX14_list 0 = .ok (.aload_n 0, 1) := by decide +kernel
theorem dX14_list_1 : decode cX14_list 1 = .ok (.iconst 0, 1) := by decide +kernel
theorem dX14_list_2 : decode cX14_list 2 = .ok (.putfield 112, 3) := by decide +kernel
theorem dX14_list_5 : decode cX14_list 5 = .ok (.aload_n 0, 1) := by decide +kernel
theorem dX14_list_6 : decode cX14_list 6 = .ok (.iload_n 1, 1) := by decide +kernel
theorem dX14_list_7 : decode cX14_list 7 = .ok (.invokevirtual 274, 3) := by decide +kernel
theorem dX14_list_10 : decode cX14_list 10 = .ok (.ifCond .eq 10, 3) := by decide +kernel
theorem dX14_list_13 : decode cX14_list 13 = .ok (.iload_n 2, 1) := by decide +kernel
theorem dX14_list_14 : decode cX14_list 14 = .ok (.invokestatic 277, 3) := by decide +kernel
theorem dX14_list_17 : decode cX14_list 17 = .ok (.ifCond .ne 5, 3) := by decide +kernel
theorem dX14_list_20 : decode cX14_list 20 = .ok (.iconst (-1), 1) := by decide +kernel
theorem dX14_list_21 : decode cX14_list 21 = .ok (.ireturn, 1) := by decide +kernel
theorem dX14_list_22 : decode cX14_list 22 = .ok (.iconst 0, 1) := by decide +kernel
theorem dX14_list_23 : decode cX14_list 23 = .ok (.istore_n 3, 1) := by decide +kernel
theorem dX14_list_24 : decode cX14_list 24 = .ok (.iconst 0, 1) := by decide +kernel
theorem dX14_list_25 : decode cX14_list 25 = .ok (.istore 4, 2) := by decide +kernel
theorem dX14_list_27 : decode cX14_list 27 = .ok (.iload 4, 2) := by decide +kernel
theorem dX14_list_29 : decode cX14_list 29 = .ok (.aload_n 0, 1) := by decide +kernel
theorem dX14_list_30 : decode cX14_list 30 = .ok (.getfield 308, 3) := by decide +kernel
theorem dX14_list_33 : decode cX14_list 33 = .ok (.if_icmp .ge 28, 3) := by decide +kernel
theorem dX14_list_36 : decode cX14_list 36 = .ok (.iload_n 3, 1) := by decide +kernel
theorem dX14_list_37 : decode cX14_list 37 = .ok (.aload_n 0, 1) := by decide +kernel
theorem dX14_list_38 : decode cX14_list 38 = .ok (.iload 4, 2) := by decide +kernel
theorem dX14_list_40 : decode cX14_list 40 = .ok (.iload_n 1, 1) := by decide +kernel
theorem dX14_list_41 : decode cX14_list 41 = .ok (.iload_n 2, 1) := by decide +kernel
theorem dX14_list_42 : decode cX14_list 42 = .ok (.invokevirtual 346, 3) := by decide +kernel
theorem dX14_list_45 : decode cX14_list 45 = .ok (.ifCond .eq 7, 3) := by decide +kernel
theorem dX14_list_48 : decode cX14_list 48 = .ok (.iconst 1, 1) := by decide +kernel
theorem dX14_list_49 : decode cX14_list 49 = .ok (.goto 4, 3) := by decide +kernel
theorem dX14_list_52 : decode cX14_list 52 = .ok (.iconst 0, 1) := by decide +kernel
theorem dX14_list_53 : decode cX14_list 53 = .ok (.iadd, 1) := by decide +kernel
theorem dX14_list_54 : decode cX14_list 54 = .ok (.istore_n 3, 1) := by decide +kernel
theorem dX14_list_55 : decode cX14_list 55 = .ok (.iinc 4 1, 3) := by decide +kernel
theorem dX14_list_58 : decode cX14_list 58 = .ok (.goto (-31), 3) := by decide +kernel
theorem dX14_list_61 : decode cX14_list 61 = .ok (.iload_n 3, 1) := by decide +kernel
theorem dX14_list_62 : decode cX14_list 62 = .ok (.ireturn, 1) := by decide +kernel
theorem dX14_nextOf_0 : decode cX14_nextOf 0 = .ok (.bipush (-2), 2) := by decide +kernel
theorem dX14_nextOf_2 : decode cX14_nextOf 2 = .ok (.istore_n 3, 1) := by decide +kernel
theorem dX14_nextOf_3 : decode cX14_nextOf 3 = .ok (.iconst 0, 1) := by decide +kernel
theorem dX14_nextOf_4 : decode cX14_nextOf 4 = .ok (.istore 4, 2) := by decide +kernel
theorem dX14_nextOf_6 : decode cX14_nextOf 6 = .ok (.iconst 0, 1) := by decide +kernel
theorem dX14_nextOf_7 : decode cX14_nextOf 7 = .ok (.istore 5, 2) := by decide +kernel
theorem dX14_nextOf_9 : decode cX14_nextOf 9 = .ok (.iload 5, 2) := by decide +kernel
theorem dX14_nextOf_11 : decode cX14_nextOf 11 = .ok (.aload_n 0, 1) := by decide +kernel
theorem dX14_nextOf_12 : decode cX14_nextOf 12 = .ok (.getfield 308, 3) := by decide +kernel
theorem dX14_nextOf_15 : decode cX14_nextOf 15 = .ok (.if_icmp .ge 90, 3) := by decide +kernel
theorem dX14_nextOf_18 : decode cX14_nextOf 18 = .ok (.aload_n 0, 1) := by decide +kernel
theorem dX14_nextOf_19 : decode cX14_nextOf 19 = .ok (.getfield 54, 3) := by decide +kernel
theorem dX14_nextOf_22 : decode cX14_nextOf 22 = .ok (.iload 5, 2) := by decide +kernel
theorem dX14_nextOf_24 : decode cX14_nextOf 24 = .ok (.iaload, 1) := by decide +kernel
theorem dX14_nextOf_25 : decode cX14_nextOf 25 = .ok (.iconst (-1), 1) := by decide +kernel
theorem dX14_nextOf_26 : decode cX14_nextOf 26 = .ok (.if_icmp .ne 73, 3) := by decide +kernel
theorem dX14_nextOf_29 : decode cX14_nextOf 29 = .ok (.aload_n 0, 1) := by decide +kernel
theorem dX14_nextOf_30 : decode cX14_nextOf 30 = .ok (.iload 5, 2) := by decide +kernel
theorem dX14_nextOf_32 : decode cX14_nextOf 32 = .ok (.iload_n 1, 1) := by decide +kernel
theorem dX14_nextOf_33 : decode cX14_nextOf 33 = .ok (.iload_n 2, 1) := by decide +kernel
theorem dX14_nextOf_34 : decode cX14_nextOf 34 = .ok (.invokevirtual 346, 3) := by decide +kernel
theorem dX14_nextOf_37 : decode cX14_nextOf 37 = .ok (.ifCond .ne 6, 3) := by decide +kernel
theorem dX14_nextOf_40 : decode cX14_nextOf 40 = .ok (.goto 59, 3) := by decide +kernel
theorem dX14_nextOf_43 : decode cX14_nextOf 43 = .ok (.aload_n 0, 1) := by decide +kernel
theorem dX14_nextOf_44 : decode cX14_nextOf 44 = .ok (.iload 5, 2) := by decide +kernel
theorem dX14_nextOf_46 : decode cX14_nextOf 46 = .ok (.iload_n 1, 1) := by decide +kernel
theorem dX14_nextOf_47 : decode cX14_nextOf 47 = .ok (.iload_n 2, 1) := by decide +kernel
theorem dX14_nextOf_48 : decode cX14_nextOf 48 = .ok (.invokevirtual 349, 3) := by decide +kernel
theorem dX14_nextOf_51 : decode cX14_nextOf 51 = .ok (.istore 6, 2) := by decide +kernel
theorem dX14_nextOf_53 : decode cX14_nextOf 53 = .ok (.iload_n 3, 1) := by decide +kernel
theorem dX14_nextOf_54 : decode cX14_nextOf 54 = .ok (.bipush (-2), 2) := by decide +kernel
theorem dX14_nextOf_56 : decode cX14_nextOf 56 = .ok (.if_icmp .eq 36, 3) := by decide +kernel
theorem dX14_nextOf_59 : decode cX14_nextOf 59 = .ok (.iload 6, 2) := by decide +kernel
theorem dX14_nextOf_61 : decode cX14_nextOf 61 = .ok (.iload 4, 2) := by decide +kernel
theorem dX14_nextOf_63 : decode cX14_nextOf 63 = .ok (.if_icmp .lt 36, 3) := by decide +kernel
theorem dX14_nextOf_66 : decode cX14_nextOf 66 = .ok (.iload 6, 2) := by decide +kernel
theorem dX14_nextOf_68 : decode cX14_nextOf 68 = .ok (.iload 4, 2) := by decide +kernel
theorem dX14_nextOf_70 : decode cX14_nextOf 70 = .ok (.if_icmp .ne 22, 3) := by decide +kernel
theorem dX14_nextOf_73 : decode cX14_nextOf 73 = .ok (.aload_n 0, 1) := by decide +kernel
theorem dX14_nextOf_74 : decode cX14_nextOf 74 = .ok (.getfield 42, 3) := by decide +kernel
theorem dX14_nextOf_77 : decode cX14_nextOf 77 = .ok (.iload 5, 2) := by decide +kernel
theorem dX14_nextOf_79 : decode cX14_nextOf 79 = .ok (.iaload, 1) := by decide +kernel
theorem dX14_nextOf_80 : decode cX14_nextOf 80 = .ok (.aload_n 0, 1) := by decide +kernel
theorem dX14_nextOf_81 : decode cX14_nextOf 81 = .ok (.getfield 42, 3) := by decide +kernel
theorem dX14_nextOf_84 : decode cX14_nextOf 84 = .ok (.iload_n 3, 1) := by decide +kernel
theorem dX14_nextOf_85 : decode cX14_nextOf 85 = .ok (.iaload, 1) := by decide +kernel
theorem dX14_nextOf_86 : decode cX14_nextOf 86 = .ok (.if_icmp .lt 6, 3) := by decide +kernel
theorem dX14_nextOf_89 : decode cX14_nextOf 89 = .ok (.goto 10, 3) := by decide +kernel
theorem dX14_nextOf_92 : decode cX14_nextOf 92 = .ok (.iload 5, 2) := by decide +kernel
theorem dX14_nextOf_94 : decode cX14_nextOf 94 = .ok (.istore_n 3, 1) := by decide +kernel
theorem dX14_nextOf_95 : decode cX14_nextOf 95 = .ok (.iload 6, 2) := by decide +kernel
theorem dX14_nextOf_97 : decode cX14_nextOf 97 = .ok (.istore 4, 2) := by decide +kernel
theorem dX14_nextOf_99 : decode cX14_nextOf 99 = .ok (.iinc 5 1, 3) := by decide +kernel
theorem dX14_nextOf_102 : decode cX14_nextOf 102 = .ok (.goto (-93), 3) := by decide +kernel
theorem dX14_nextOf_105 : decode cX14_nextOf 105 = .ok (.iload_n 3, 1) := by decide +kernel
theorem dX14_nextOf_106 : decode cX14_nextOf 106 = .ok (.ireturn, 1) := by decide +kernel
theorem dX14_next__0 : decode cX14_next_ 0 = .ok (.aload_n 0, 1) := by decide +kernel
theorem dX14_next__1 : decode cX14_next_ 1 = .ok (.iconst 0, 1) := by decide +kernel
theorem dX14_next__2 : decode cX14_next_ 2 = .ok (.putfield 112, 3) := by decide +kernel
theorem dX14_next__5 : decode cX14_next_ 5 = .ok (.aload_n 0, 1) := by decide +kernel
theorem dX14_next__6 : decode cX14_next_ 6 = .ok (.iload_n 1, 1) := by decide +kernel
theorem dX14_next__7 : decode cX14_next_ 7 = .ok (.invokevirtual 274, 3) := by decide +kernel
theorem dX14_next__10 : decode cX14_next_ 10 = .ok (.ifCond .eq 19, 3) := by decide +kernel
theorem dX14_next__13 : decode cX14_next_ 13 = .ok (.iload_n 2, 1) := by decide +kernel
theorem dX14_next__14 : decode cX14_next_ 14 = .ok (.invokestatic 277, 3) := by decide +kernel
theorem dX14_next__17 : decode cX14_next_ 17 = .ok (.ifCond .eq 12, 3) := by decide +kernel
theorem dX14_next__20 : decode cX14_next_ 20 = .ok (.aload_n 0, 1) := by decide +kernel
theorem dX14_next__21 : decode cX14_next_ 21 = .ok (.iload_n 1, 1) := by decide +kernel
theorem dX14_next__22 : decode cX14_next_ 22 = .ok (.iload_n 2, 1) := by decide +kernel
theorem dX14_next__23 : decode cX14_next_ 23 = .ok (.invokevirtual 352, 3) := by decide +kernel
theorem dX14_next__26 : decode cX14_next_ 26 = .ok (.goto 4, 3) := by decide +kernel
theorem dX14_next__29 : decode cX14_next_ 29 = .ok (.iconst (-1), 1) := by decide +kernel
theorem dX14_next__30 : decode cX14_next_ 30 = .ok (.ireturn, 1) := by decide +kernel
theorem dX14_room_0 : decode cX14_room 0 = .ok (.aload_n 0, 1) := by decide +kernel
theorem dX14_room_1 : decode cX14_room 1 = .ok (.iconst 0, 1) := by decide +kernel
theorem dX14_room_2 : decode cX14_room 2 = .ok (.putfield 112, 3) := by decide +kernel
theorem dX14_room_5 : decode cX14_room 5 = .ok (.aload_n 0, 1) := by decide +kernel
theorem dX14_room_6 : decode cX14_room 6 = .ok (.iload_n 1, 1) := by decide +kernel
theorem dX14_room_7 : decode cX14_room 7 = .ok (.invokevirtual 274, 3) := by decide +kernel
theorem dX14_room_10 : decode cX14_room 10 = .ok (.ifCond .ne 9, 3) := by decide +kernel
theorem dX14_room_13 : decode cX14_room 13 = .ok (.aload_n 0, 1) := by decide +kernel
theorem dX14_room_14 : decode cX14_room 14 = .ok (.iconst 1, 1) := by decide +kernel
theorem dX14_room_15 : decode cX14_room 15 = .ok (.invokevirtual 121, 3) := by decide +kernel
theorem dX14_room_18 : decode cX14_room 18 = .ok (.ireturn, 1) := by decide +kernel
theorem dX14_room_19 : decode cX14_room 19 = .ok (.aload_n 0, 1) := by decide +kernel
theorem dX14_room_20 : decode cX14_room 20 = .ok (.getfield 355, 3) := by decide +kernel
theorem dX14_room_23 : decode cX14_room 23 = .ok (.bipush 20, 2) := by decide +kernel
theorem dX14_room_25 : decode cX14_room 25 = .ok (.if_icmp .ne 9, 3) := by decide +kernel
theorem dX14_room_28 : decode cX14_room 28 = .ok (.aload_n 0, 1) := by decide +kernel
theorem dX14_room_29 : decode cX14_room 29 = .ok (.iconst 3, 1) := by decide +kernel
theorem dX14_room_30 : decode cX14_room 30 = .ok (.invokevirtual 121, 3) := by decide +kernel
theorem dX14_room_33 : decode cX14_room 33 = .ok (.ireturn, 1) := by decide +kernel
theorem dX14_room_34 : decode cX14_room 34 = .ok (.aload_n 0, 1) := by decide +kernel
theorem dX14_room_35 : decode cX14_room 35 = .ok (.getfield 76, 3) := by decide +kernel
theorem dX14_room_38 : decode cX14_room 38 = .ok (.aload_n 0, 1) := by decide +kernel
theorem dX14_room_39 : decode cX14_room 39 = .ok (.getfield 355, 3) := by decide +kernel
theorem dX14_room_42 : decode cX14_room 42 = .ok (.iload_n 1, 1) := by decide +kernel
theorem dX14_room_43 : decode cX14_room 43 = .ok (.iastore, 1) := by decide +kernel
theorem dX14_room_44 : decode cX14_room 44 = .ok (.aload_n 0, 1) := by decide +kernel
theorem dX14_room_45 : decode cX14_room 45 = .ok (.getfield 79, 3) := by decide +kernel
theorem dX14_room_48 : decode cX14_room 48 = .ok (.aload_n 0, 1) := by decide +kernel
theorem dX14_room_49 : decode cX14_room 49 = .ok (.getfield 355, 3) := by decide +kernel
theorem dX14_room_52 : decode cX14_room 52 = .ok (.iconst (-1), 1) := by decide +kernel
theorem dX14_room_53 : decode cX14_room 53 = .ok (.iastore, 1) := by decide +kernel
theorem dX14_room_54 : decode cX14_room 54 = .ok (.aload_n 0, 1) := by decide +kernel
theorem dX14_room_55 : decode cX14_room 55 = .ok (.getfield 82, 3) := by decide +kernel
theorem dX14_room_58 : decode cX14_room 58 = .ok (.aload_n 0, 1) := by decide +kernel
theorem dX14_room_59 : decode cX14_room 59 = .ok (.getfield 355, 3) := by decide +kernel
theorem dX14_room_62 : decode cX14_room 62 = .ok (.bipush (-2), 2) := by decide +kernel
theorem dX14_room_64 : decode cX14_room 64 = .ok (.iastore, 1) := by decide +kernel
theorem dX14_room_65 : decode cX14_room 65 = .ok (.aload_n 0, 1) := by decide +kernel
theorem dX14_room_66 : decode cX14_room 66 = .ok (.dup, 1) := by decide +kernel
theorem dX14_room_67 : decode cX14_room 67 = .ok (.getfield 355, 3) := by decide +kernel
theorem dX14_room_70 : decode cX14_room 70 = .ok (.iconst 1, 1) := by decide +kernel
theorem dX14_room_71 : decode cX14_room 71 = .ok (.iadd, 1) := by decide +kernel
theorem dX14_room_72 : decode cX14_room 72 = .ok (.putfield 355, 3) := by decide +kernel
theorem dX14_room_75 : decode cX14_room 75 = .ok (.aload_n 0, 1) := by decide +kernel
theorem dX14_room_76 : decode cX14_room 76 = .ok (.aload_n 0, 1) := by decide +kernel
theorem dX14_room_77 : decode cX14_room 77 = .ok (.getfield 355, 3) := by decide +kernel
theorem dX14_room_80 : decode cX14_room 80 = .ok (.iconst 1, 1) := by decide +kernel
theorem dX14_room_81 : decode cX14_room 81 = .ok (.isub, 1) := by decide +kernel
theorem dX14_room_82 : decode cX14_room 82 = .ok (.invokevirtual 125, 3) := by decide +kernel
theorem dX14_room_85 : decode cX14_room 85 = .ok (.ireturn, 1) := by decide +kernel
theorem dX14_trustee_0 : decode cX14_trustee 0 = .ok (.aload_n 0, 1) := by decide +kernel
theorem dX14_trustee_1 : decode cX14_trustee 1 = .ok (.iconst 0, 1) := by decide +kernel
theorem dX14_trustee_2 : decode cX14_trustee 2 = .ok (.putfield 112, 3) := by decide +kernel
theorem dX14_trustee_5 : decode cX14_trustee 5 = .ok (.aload_n 0, 1) := by decide +kernel
theorem dX14_trustee_6 : decode cX14_trustee 6 = .ok (.getfield 358, 3) := by decide +kernel
theorem dX14_trustee_9 : decode cX14_trustee 9 = .ok (.bipush 8, 2) := by decide +kernel
theorem dX14_trustee_11 : decode cX14_trustee 11 = .ok (.if_icmp .ne 9, 3) := by decide +kernel
theorem dX14_trustee_14 : decode cX14_trustee 14 = .ok (.aload_n 0, 1) := by decide +kernel
theorem dX14_trustee_15 : decode cX14_trustee 15 = .ok (.iconst 3, 1) := by decide +kernel
theorem dX14_trustee_16 : decode cX14_trustee 16 = .ok (.invokevirtual 121, 3) := by decide +kernel
theorem dX14_trustee_19 : decode cX14_trustee 19 = .ok (.ireturn, 1) := by decide +kernel
theorem dX14_trustee_20 : decode cX14_trustee 20 = .ok (.aload_n 0, 1) := by decide +kernel
theorem dX14_trustee_21 : decode cX14_trustee 21 = .ok (.getfield 358, 3) := by decide +kernel
theorem dX14_trustee_24 : decode cX14_trustee 24 = .ok (.ifCond .ne 8, 3) := by decide +kernel
theorem dX14_trustee_27 : decode cX14_trustee 27 = .ok (.aload_n 0, 1) := by decide +kernel
theorem dX14_trustee_28 : decode cX14_trustee 28 = .ok (.iconst 0, 1) := by decide +kernel
theorem dX14_trustee_29 : decode cX14_trustee 29 = .ok (.putfield 73, 3) := by decide +kernel
theorem dX14_trustee_32 : decode cX14_trustee 32 = .ok (.aload_n 0, 1) := by decide +kernel
theorem dX14_trustee_33 : decode cX14_trustee 33 = .ok (.dup, 1) := by decide +kernel
theorem dX14_trustee_34 : decode cX14_trustee 34 = .ok (.getfield 358, 3) := by decide +kernel
theorem dX14_trustee_37 : decode cX14_trustee 37 = .ok (.iconst 1, 1) := by decide +kernel
theorem dX14_trustee_38 : decode cX14_trustee 38 = .ok (.iadd, 1) := by decide +kernel
theorem dX14_trustee_39 : decode cX14_trustee 39 = .ok (.putfield 358, 3) := by decide +kernel
theorem dX14_trustee_42 : decode cX14_trustee 42 = .ok (.aload_n 0, 1) := by decide +kernel
theorem dX14_trustee_43 : decode cX14_trustee 43 = .ok (.aload_n 0, 1) := by decide +kernel
theorem dX14_trustee_44 : decode cX14_trustee 44 = .ok (.getfield 358, 3) := by decide +kernel
theorem dX14_trustee_47 : decode cX14_trustee 47 = .ok (.iconst 1, 1) := by decide +kernel
theorem dX14_trustee_48 : decode cX14_trustee 48 = .ok (.isub, 1) := by decide +kernel
theorem dX14_trustee_49 : decode cX14_trustee 49 = .ok (.invokevirtual 125, 3) := by decide +kernel
theorem dX14_trustee_52 : decode cX14_trustee 52 = .ok (.ireturn, 1) := by decide +kernel
theorem dX14_away_0 : decode cX14_away 0 = .ok (.aload_n 0, 1) := by decide +kernel
theorem dX14_away_1 : decode cX14_away 1 = .ok (.iconst 0, 1) := by decide +kernel
theorem dX14_away_2 : decode cX14_away 2 = .ok (.putfield 112, 3) := by decide +kernel
theorem dX14_away_5 : decode cX14_away 5 = .ok (.iload_n 1, 1) := by decide +kernel
theorem dX14_away_6 : decode cX14_away 6 = .ok (.ifCond .lt 11, 3) := by decide +kernel
theorem dX14_away_9 : decode cX14_away 9 = .ok (.iload_n 1, 1) := by decide +kernel
theorem dX14_away_10 : decode cX14_away 10 = .ok (.aload_n 0, 1) := by decide +kernel
theorem dX14_away_11 : decode cX14_away 11 = .ok (.getfield 358, 3) := by decide +kernel
theorem dX14_away_14 : decode cX14_away 14 = .ok (.if_icmp .lt 9, 3) := by decide +kernel
theorem dX14_away_17 : decode cX14_away 17 = .ok (.aload_n 0, 1) := by decide +kernel
theorem dX14_away_18 : decode cX14_away 18 = .ok (.iconst 1, 1) := by decide +kernel
theorem dX14_away_19 : decode cX14_away 19 = .ok (.invokevirtual 361, 3) := by decide +kernel
theorem dX14_away_22 : decode cX14_away 22 = .ok (.ireturn, 1) := by decide +kernel
theorem dX14_away_23 : decode cX14_away 23 = .ok (.aload_n 0, 1) := by decide +kernel
theorem dX14_away_24 : decode cX14_away 24 = .ok (.getfield 97, 3) := by decide +kernel
theorem dX14_away_27 : decode cX14_away 27 = .ok (.iload_n 1, 1) := by decide +kernel
theorem dX14_away_28 : decode cX14_away 28 = .ok (.iload_n 2, 1) := by decide +kernel
theorem dX14_away_29 : decode cX14_away 29 = .ok (.bastore, 1) := by decide +kernel
theorem dX14_away_30 : decode cX14_away 30 = .ok (.aload_n 0, 1) := by decide +kernel
theorem dX14_away_31 : decode cX14_away 31 = .ok (.invokevirtual 364, 3) := by decide +kernel
theorem dX14_away_34 : decode cX14_away 34 = .ok (.ireturn, 1) := by decide +kernel
theorem dX14_isRoom_0 : decode cX14_isRoom 0 = .ok (.iload_n 1, 1) := by decide +kernel
theorem dX14_isRoom_1 : decode cX14_isRoom 1 = .ok (.ifCond .lt 15, 3) := by decide +kernel
theorem dX14_isRoom_4 : decode cX14_isRoom 4 = .ok (.iload_n 1, 1) := by decide +kernel
theorem dX14_isRoom_5 : decode cX14_isRoom 5 = .ok (.aload_n 0, 1) := by decide +kernel
theorem dX14_isRoom_6 : decode cX14_isRoom 6 = .ok (.getfield 355, 3) := by decide +kernel
theorem dX14_isRoom_9 : decode cX14_isRoom 9 = .ok (.if_icmp .ge 7, 3) := by decide +kernel
theorem dX14_isRoom_12 : decode cX14_isRoom 12 = .ok (.iconst 1, 1) := by decide +kernel
theorem dX14_isRoom_13 : decode cX14_isRoom 13 = .ok (.goto 4, 3) := by decide +kernel
theorem dX14_isRoom_16 : decode cX14_isRoom 16 = .ok (.iconst 0, 1) := by decide +kernel
theorem dX14_isRoom_17 : decode cX14_isRoom 17 = .ok (.ireturn, 1) := by decide +kernel
theorem dX14_fill_0 : decode cX14_fill 0 = .ok (.aload_n 0, 1) := by decide +kernel
theorem dX14_fill_1 : decode cX14_fill 1 = .ok (.iconst 0, 1) := by decide +kernel
theorem dX14_fill_2 : decode cX14_fill 2 = .ok (.putfield 112, 3) := by decide +kernel
theorem dX14_fill_5 : decode cX14_fill 5 = .ok (.aload_n 0, 1) := by decide +kernel
theorem dX14_fill_6 : decode cX14_fill 6 = .ok (.iload_n 1, 1) := by decide +kernel
theorem dX14_fill_7 : decode cX14_fill 7 = .ok (.invokevirtual 368, 3) := by decide +kernel
theorem dX14_fill_10 : decode cX14_fill 10 = .ok (.ifCond .ne 9, 3) := by decide +kernel
theorem dX14_fill_13 : decode cX14_fill 13 = .ok (.aload_n 0, 1) := by decide +kernel
theorem dX14_fill_14 : decode cX14_fill 14 = .ok (.iconst 1, 1) := by decide +kernel
theorem dX14_fill_15 : decode cX14_fill 15 = .ok (.invokevirtual 121, 3) := by decide +kernel
theorem dX14_fill_18 : decode cX14_fill 18 = .ok (.ireturn, 1) := by decide +kernel
theorem dX14_fill_19 : decode cX14_fill 19 = .ok (.aload_n 0, 1) := by decide +kernel
theorem dX14_fill_20 : decode cX14_fill 20 = .ok (.getfield 79, 3) := by decide +kernel
theorem dX14_fill_23 : decode cX14_fill 23 = .ok (.iload_n 1, 1) := by decide +kernel
theorem dX14_fill_24 : decode cX14_fill 24 = .ok (.iaload, 1) := by decide +kernel
theorem dX14_fill_25 : decode cX14_fill 25 = .ok (.iconst (-1), 1) := by decide +kernel
theorem dX14_fill_26 : decode cX14_fill 26 = .ok (.if_icmp .eq 9, 3) := by decide +kernel
theorem dX14_fill_29 : decode cX14_fill 29 = .ok (.aload_n 0, 1) := by decide +kernel
theorem dX14_fill_30 : decode cX14_fill 30 = .ok (.iconst 5, 1) := by decide +kernel
theorem dX14_fill_31 : decode cX14_fill 31 = .ok (.invokevirtual 121, 3) := by decide +kernel
theorem dX14_fill_34 : decode cX14_fill 34 = .ok (.ireturn, 1) := by decide +kernel
theorem dX14_fill_35 : decode cX14_fill 35 = .ok (.iconst (-1), 1) := by decide +kernel
theorem dX14_fill_36 : decode cX14_fill 36 = .ok (.istore_n 2, 1) := by decide +kernel
theorem dX14_fill_37 : decode cX14_fill 37 = .ok (.iconst 0, 1) := by decide +kernel
theorem dX14_fill_38 : decode cX14_fill 38 = .ok (.istore_n 3, 1) := by decide +kernel
theorem dX14_fill_39 : decode cX14_fill 39 = .ok (.iload_n 3, 1) := by decide +kernel
theorem dX14_fill_40 : decode cX14_fill 40 = .ok (.aload_n 0, 1) := by decide +kernel
theorem dX14_fill_41 : decode cX14_fill 41 = .ok (.getfield 358, 3) := by decide +kernel
theorem dX14_fill_44 : decode cX14_fill 44 = .ok (.if_icmp .ge 45, 3) := by decide +kernel
theorem dX14_fill_47 : decode cX14_fill 47 = .ok (.iload_n 2, 1) := by decide +kernel
theorem dX14_fill_48 : decode cX14_fill 48 = .ok (.iconst (-1), 1) := by decide +kernel
theorem dX14_fill_49 : decode cX14_fill 49 = .ok (.if_icmp .ne 40, 3) := by decide +kernel
theorem dX14_fill_52 : decode cX14_fill 52 = .ok (.aload_n 0, 1) := by decide +kernel
theorem dX14_fill_53 : decode cX14_fill 53 = .ok (.getfield 97, 3) := by decide +kernel
theorem dX14_fill_56 : decode cX14_fill 56 = .ok (.aload_n 0, 1) := by decide +kernel
theorem dX14_fill_57 : decode cX14_fill 57 = .ok (.getfield 73, 3) := by decide +kernel
theorem dX14_fill_60 : decode cX14_fill 60 = .ok (.iload_n 3, 1) := by decide +kernel
theorem dX14_fill_61 : decode cX14_fill 61 = .ok (.iadd, 1) := by decide +kernel
theorem dX14_fill_62 : decode cX14_fill 62 = .ok (.aload_n 0, 1) := by decide +kernel
theorem dX14_fill_63 : decode cX14_fill 63 = .ok (.getfield 358, 3) := by decide +kernel
theorem dX14_fill_66 : decode cX14_fill 66 = .ok (.irem, 1) := by decide +kernel
theorem dX14_fill_67 : decode cX14_fill 67 = .ok (.baload, 1) := by decide +kernel
theorem dX14_fill_68 : decode cX14_fill 68 = .ok (.ifCond .ne 15, 3) := by decide +kernel
theorem dX14_fill_71 : decode cX14_fill 71 = .ok (.aload_n 0, 1) := by decide +kernel
theorem dX14_fill_72 : decode cX14_fill 72 = .ok (.getfield 73, 3) := by decide +kernel
theorem dX14_fill_75 : decode cX14_fill 75 = .ok (.iload_n 3, 1) := by decide +kernel
theorem dX14_fill_76 : decode cX14_fill 76 = .ok (.iadd, 1) := by decide +kernel
theorem dX14_fill_77 : decode cX14_fill 77 = .ok (.aload_n 0, 1) := by decide +kernel
theorem dX14_fill_78 : decode cX14_fill 78 = .ok (.getfield 358, 3) := by decide +kernel
theorem dX14_fill_81 : decode cX14_fill 81 = .ok (.irem, 1) := by decide +kernel
theorem dX14_fill_82 : decode cX14_fill 82 = .ok (.istore_n 2, 1) := by decide +kernel
theorem dX14_fill_83 : decode cX14_fill 83 = .ok (.iinc 3 1, 3) := by decide +kernel
theorem dX14_fill_86 : decode cX14_fill 86 = .ok (.goto (-47), 3) := by decide +kernel
theorem dX14_fill_89 : decode cX14_fill 89 = .ok (.iload_n 2, 1) := by decide +kernel
theorem dX14_fill_90 : decode cX14_fill 90 = .ok (.iconst (-1), 1) := by decide +kernel
theorem dX14_fill_91 : decode cX14_fill 91 = .ok (.if_icmp .ne 8, 3) := by decide +kernel
theorem dX14_fill_94 : decode cX14_fill 94 = .ok (.bipush (-2), 2) := by decide +kernel
theorem dX14_fill_96 : decode cX14_fill 96 = .ok (.goto 17, 3) := by decide +kernel
theorem dX14_fill_99 : decode cX14_fill 99 = .ok (.aload_n 0, 1) := by decide +kernel
theorem dX14_fill_100 : decode cX14_fill 100 = .ok (.aload_n 0, 1) := by decide +kernel
theorem dX14_fill_101 : decode cX14_fill 101 = .ok (.getfield 76, 3) := by decide +kernel
theorem dX14_fill_104 : decode cX14_fill 104 = .ok (.iload_n 1, 1) := by decide +kernel
theorem dX14_fill_105 : decode cX14_fill 105 = .ok (.iaload, 1) := by decide +kernel
theorem dX14_fill_106 : decode cX14_fill 106 = .ok (.aload_n 0, 1) := by decide +kernel
theorem dX14_fill_107 : decode cX14_fill 107 = .ok (.getfield 312, 3) := by decide +kernel
theorem dX14_fill_110 : decode cX14_fill 110 = .ok (.invokevirtual 352, 3) := by decide +kernel
theorem dX14_fill_113 : decode cX14_fill 113 = .ok (.istore_n 3, 1) := by decide +kernel
theorem dX14_fill_114 : decode cX14_fill 114 = .ok (.iload_n 3, 1) := by decide +kernel
theorem dX14_fill_115 : decode cX14_fill 115 = .ok (.bipush (-2), 2) := by decide +kernel
theorem dX14_fill_117 : decode cX14_fill 117 = .ok (.if_icmp .ne 10, 3) := by decide +kernel
theorem dX14_fill_120 : decode cX14_fill 120 = .ok (.aload_n 0, 1) := by decide +kernel
theorem dX14_fill_121 : decode cX14_fill 121 = .ok (.bipush 6, 2) := by decide +kernel
theorem dX14_fill_123 : decode cX14_fill 123 = .ok (.invokevirtual 121, 3) := by decide +kernel
theorem dX14_fill_126 : decode cX14_fill 126 = .ok (.ireturn, 1) := by decide +kernel
theorem dX14_fill_127 : decode cX14_fill 127 = .ok (.aload_n 0, 1) := by decide +kernel
theorem dX14_fill_128 : decode cX14_fill 128 = .ok (.getfield 371, 3) := by decide +kernel
theorem dX14_fill_131 : decode cX14_fill 131 = .ok (.bipush 100, 2) := by decide +kernel
theorem dX14_fill_133 : decode cX14_fill 133 = .ok (.if_icmp .ne 9, 3) := by decide +kernel
theorem dX14_fill_136 : decode cX14_fill 136 = .ok (.aload_n 0, 1) := by decide +kernel
theorem dX14_fill_137 : decode cX14_fill 137 = .ok (.iconst 3, 1) := by decide +kernel
theorem dX14_fill_138 : decode cX14_fill 138 = .ok (.invokevirtual 121, 3) := by decide +kernel
theorem dX14_fill_141 : decode cX14_fill 141 = .ok (.ireturn, 1) := by decide +kernel
theorem dX14_fill_142 : decode cX14_fill 142 = .ok (.aload_n 0, 1) := by decide +kernel
theorem dX14_fill_143 : decode cX14_fill 143 = .ok (.getfield 85, 3) := by decide +kernel
theorem dX14_fill_146 : decode cX14_fill 146 = .ok (.aload_n 0, 1) := by decide +kernel
theorem dX14_fill_147 : decode cX14_fill 147 = .ok (.getfield 371, 3) := by decide +kernel
theorem dX14_fill_150 : decode cX14_fill 150 = .ok (.iload_n 1, 1) := by decide +kernel
theorem dX14_fill_151 : decode cX14_fill 151 = .ok (.iastore, 1) := by decide +kernel
theorem dX14_fill_152 : decode cX14_fill 152 = .ok (.aload_n 0, 1) := by decide +kernel
theorem dX14_fill_153 : decode cX14_fill 153 = .ok (.getfield 88, 3) := by decide +kernel
theorem dX14_fill_156 : decode cX14_fill 156 = .ok (.aload_n 0, 1) := by decide +kernel
theorem dX14_fill_157 : decode cX14_fill 157 = .ok (.getfield 371, 3) := by decide +kernel
theorem dX14_fill_160 : decode cX14_fill 160 = .ok (.iload_n 3, 1) := by decide +kernel
theorem dX14_fill_161 : decode cX14_fill 161 = .ok (.iastore, 1) := by decide +kernel
theorem dX14_fill_162 : decode cX14_fill 162 = .ok (.aload_n 0, 1) := by decide +kernel
theorem dX14_fill_163 : decode cX14_fill 163 = .ok (.getfield 91, 3) := by decide +kernel
theorem dX14_fill_166 : decode cX14_fill 166 = .ok (.aload_n 0, 1) := by decide +kernel
theorem dX14_fill_167 : decode cX14_fill 167 = .ok (.getfield 371, 3) := by decide +kernel
theorem dX14_fill_170 : decode cX14_fill 170 = .ok (.aload_n 0, 1) := by decide +kernel
theorem dX14_fill_171 : decode cX14_fill 171 = .ok (.getfield 312, 3) := by decide +kernel
theorem dX14_fill_174 : decode cX14_fill 174 = .ok (.iastore, 1) := by decide +kernel
theorem dX14_fill_175 : decode cX14_fill 175 = .ok (.aload_n 0, 1) := by decide +kernel
theorem dX14_fill_176 : decode cX14_fill 176 = .ok (.getfield 94, 3) := by decide +kernel
theorem dX14_fill_179 : decode cX14_fill 179 = .ok (.aload_n 0, 1) := by decide +kernel
theorem dX14_fill_180 : decode cX14_fill 180 = .ok (.getfield 371, 3) := by decide +kernel
theorem dX14_fill_183 : decode cX14_fill 183 = .ok (.iconst (-1), 1) := by decide +kernel
theorem dX14_fill_184 : decode cX14_fill 184 = .ok (.iastore, 1) := by decide +kernel
theorem dX14_fill_185 : decode cX14_fill 185 = .ok (.aload_n 0, 1) := by decide +kernel
theorem dX14_fill_186 : decode cX14_fill 186 = .ok (.getfield 79, 3) := by decide +kernel
theorem dX14_fill_189 : decode cX14_fill 189 = .ok (.iload_n 1, 1) := by decide +kernel
theorem dX14_fill_190 : decode cX14_fill 190 = .ok (.aload_n 0, 1) := by decide +kernel
theorem dX14_fill_191 : decode cX14_fill 191 = .ok (.getfield 371, 3) := by decide +kernel
theorem dX14_fill_194 : decode cX14_fill 194 = .ok (.iastore, 1) := by decide +kernel
theorem dX14_fill_195 : decode cX14_fill 195 = .ok (.aload_n 0, 1) := by decide +kernel
theorem dX14_fill_196 : decode cX14_fill 196 = .ok (.getfield 82, 3) := by decide +kernel
theorem dX14_fill_199 : decode cX14_fill 199 = .ok (.iload_n 1, 1) := by decide +kernel
theorem dX14_fill_200 : decode cX14_fill 200 = .ok (.iload_n 2, 1) := by decide +kernel
theorem dX14_fill_201 : decode cX14_fill 201 = .ok (.iastore, 1) := by decide +kernel
theorem dX14_fill_202 : decode cX14_fill 202 = .ok (.aload_n 0, 1) := by decide +kernel
theorem dX14_fill_203 : decode cX14_fill 203 = .ok (.getfield 54, 3) := by decide +kernel
theorem dX14_fill_206 : decode cX14_fill 206 = .ok (.iload_n 3, 1) := by decide +kernel
theorem dX14_fill_207 : decode cX14_fill 207 = .ok (.iload_n 1, 1) := by decide +kernel
theorem dX14_fill_208 : decode cX14_fill 208 = .ok (.iastore, 1) := by decide +kernel
theorem dX14_fill_209 : decode cX14_fill 209 = .ok (.aload_n 0, 1) := by decide +kernel
theorem dX14_fill_210 : decode cX14_fill 210 = .ok (.dup, 1) := by decide +kernel
theorem dX14_fill_211 : decode cX14_fill 211 = .ok (.getfield 371, 3) := by decide +kernel
theorem dX14_fill_214 : decode cX14_fill 214 = .ok (.iconst 1, 1) := by decide +kernel
theorem dX14_fill_215 : decode cX14_fill 215 = .ok (.iadd, 1) := by decide +kernel
theorem dX14_fill_216 : decode cX14_fill 216 = .ok (.putfield 371, 3) := by decide +kernel
theorem dX14_fill_219 : decode cX14_fill 219 = .ok (.aload_n 0, 1) := by decide +kernel
theorem dX14_fill_220 : decode cX14_fill 220 = .ok (.iload_n 2, 1) := by decide +kernel
theorem dX14_fill_221 : decode cX14_fill 221 = .ok (.iconst 1, 1) := by decide +kernel
theorem dX14_fill_222 : decode cX14_fill 222 = .ok (.iadd, 1) := by decide +kernel
theorem dX14_fill_223 : decode cX14_fill 223 = .ok (.aload_n 0, 1) := by decide +kernel
theorem dX14_fill_224 : decode cX14_fill 224 = .ok (.getfield 358, 3) := by decide +kernel
theorem dX14_fill_227 : decode cX14_fill 227 = .ok (.irem, 1) := by decide +kernel
theorem dX14_fill_228 : decode cX14_fill 228 = .ok (.putfield 73, 3) := by decide +kernel
theorem dX14_fill_231 : decode cX14_fill 231 = .ok (.aload_n 0, 1) := by decide +kernel
theorem dX14_fill_232 : decode cX14_fill 232 = .ok (.iload_n 3, 1) := by decide +kernel
theorem dX14_fill_233 : decode cX14_fill 233 = .ok (.invokevirtual 125, 3) := by decide +kernel
theorem dX14_fill_236 : decode cX14_fill 236 = .ok (.ireturn, 1) := by decide +kernel
theorem dX14_ends_0 : decode cX14_ends 0 = .ok (.aload_n 0, 1) := by decide +kernel
theorem dX14_ends_1 : decode cX14_ends 1 = .ok (.getfield 79, 3) := by decide +kernel
theorem dX14_ends_4 : decode cX14_ends 4 = .ok (.iload_n 1, 1) := by decide +kernel
theorem dX14_ends_5 : decode cX14_ends 5 = .ok (.iaload, 1) := by decide +kernel
theorem dX14_ends_6 : decode cX14_ends 6 = .ok (.istore_n 2, 1) := by decide +kernel
theorem dX14_ends_7 : decode cX14_ends 7 = .ok (.aload_n 0, 1) := by decide +kernel
theorem dX14_ends_8 : decode cX14_ends 8 = .ok (.getfield 88, 3) := by decide +kernel
theorem dX14_ends_11 : decode cX14_ends 11 = .ok (.iload_n 2, 1) := by decide +kernel
theorem dX14_ends_12 : decode cX14_ends 12 = .ok (.iaload, 1) := by decide +kernel
theorem dX14_ends_13 : decode cX14_ends 13 = .ok (.istore_n 3, 1) := by decide +kernel
theorem dX14_ends_14 : decode cX14_ends 14 = .ok (.aload_n 0, 1) := by decide +kernel
theorem dX14_ends_15 : decode cX14_ends 15 = .ok (.getfield 94, 3) := by decide +kernel
theorem dX14_ends_18 : decode cX14_ends 18 = .ok (.iload_n 2, 1) := by decide +kernel
theorem dX14_ends_19 : decode cX14_ends 19 = .ok (.aload_n 0, 1) := by decide +kernel
theorem dX14_ends_20 : decode cX14_ends 20 = .ok (.getfield 312, 3) := by decide +kernel
theorem dX14_ends_23 : decode cX14_ends 23 = .ok (.iastore, 1) := by decide +kernel
theorem dX14_ends_24 : decode cX14_ends 24 = .ok (.aload_n 0, 1) := by decide +kernel
theorem dX14_ends_25 : decode cX14_ends 25 = .ok (.getfield 79, 3) := by decide +kernel
theorem dX14_ends_28 : decode cX14_ends 28 = .ok (.iload_n 1, 1) := by decide +kernel
theorem dX14_ends_29 : decode cX14_ends 29 = .ok (.iconst (-1), 1) := by decide +kernel
theorem dX14_ends_30 : decode cX14_ends 30 = .ok (.iastore, 1) := by decide +kernel
theorem dX14_ends_31 : decode cX14_ends 31 = .ok (.aload_n 0, 1) := by decide +kernel
theorem dX14_ends_32 : decode cX14_ends 32 = .ok (.getfield 54, 3) := by decide +kernel
theorem dX14_ends_35 : decode cX14_ends 35 = .ok (.iload_n 3, 1) := by decide +kernel
theorem dX14_ends_36 : decode cX14_ends 36 = .ok (.iconst (-1), 1) := by decide +kernel
theorem dX14_ends_37 : decode cX14_ends 37 = .ok (.iastore, 1) := by decide +kernel
theorem dX14_ends_38 : decode cX14_ends 38 = .ok (.aload_n 0, 1) := by decide +kernel
theorem dX14_ends_39 : decode cX14_ends 39 = .ok (.getfield 48, 3) := by decide +kernel
theorem dX14_ends_42 : decode cX14_ends 42 = .ok (.iload_n 3, 1) := by decide +kernel
theorem dX14_ends_43 : decode cX14_ends 43 = .ok (.iconst 0, 1) := by decide +kernel
theorem dX14_ends_44 : decode cX14_ends 44 = .ok (.iastore, 1) := by decide +kernel
theorem dX14_ends_45 : decode cX14_ends 45 = .ok (.iload_n 3, 1) := by decide +kernel
theorem dX14_ends_46 : decode cX14_ends 46 = .ok (.ireturn, 1) := by decide +kernel
theorem dX14_leave_0 : decode cX14_leave 0 = .ok (.aload_n 0, 1) := by decide +kernel
theorem dX14_leave_1 : decode cX14_leave 1 = .ok (.iconst 0, 1) := by decide +kernel
theorem dX14_leave_2 : decode cX14_leave 2 = .ok (.putfield 112, 3) := by decide +kernel
theorem dX14_leave_5 : decode cX14_leave 5 = .ok (.aload_n 0, 1) := by decide +kernel
theorem dX14_leave_6 : decode cX14_leave 6 = .ok (.iload_n 1, 1) := by decide +kernel
theorem dX14_leave_7 : decode cX14_leave 7 = .ok (.invokevirtual 368, 3) := by decide +kernel
theorem dX14_leave_10 : decode cX14_leave 10 = .ok (.ifCond .ne 9, 3) := by decide +kernel
theorem dX14_leave_13 : decode cX14_leave 13 = .ok (.aload_n 0, 1) := by decide +kernel
theorem dX14_leave_14 : decode cX14_leave 14 = .ok (.iconst 1, 1) := by decide +kernel
theorem dX14_leave_15 : decode cX14_leave 15 = .ok (.invokevirtual 121, 3) := by decide +kernel
theorem dX14_leave_18 : decode cX14_leave 18 = .ok (.ireturn, 1) := by decide +kernel
theorem dX14_leave_19 : decode cX14_leave 19 = .ok (.aload_n 0, 1) := by decide +kernel
theorem dX14_leave_20 : decode cX14_leave 20 = .ok (.getfield 79, 3) := by decide +kernel
theorem dX14_leave_23 : decode cX14_leave 23 = .ok (.iload_n 1, 1) := by decide +kernel
theorem dX14_leave_24 : decode cX14_leave 24 = .ok (.iaload, 1) := by decide +kernel
theorem dX14_leave_25 : decode cX14_leave 25 = .ok (.iconst (-1), 1) := by decide +kernel
theorem dX14_leave_26 : decode cX14_leave 26 = .ok (.if_icmp .ne 10, 3) := by decide +kernel
theorem dX14_leave_29 : decode cX14_leave 29 = .ok (.aload_n 0, 1) := by decide +kernel
theorem dX14_leave_30 : decode cX14_leave 30 = .ok (.bipush 6, 2) := by decide +kernel
theorem dX14_leave_32 : decode cX14_leave 32 = .ok (.invokevirtual 121, 3) := by decide +kernel
theorem dX14_leave_35 : decode cX14_leave 35 = .ok (.ireturn, 1) := by decide +kernel
theorem dX14_leave_36 : decode cX14_leave 36 = .ok (.aload_n 0, 1) := by decide +kernel
theorem dX14_leave_37 : decode cX14_leave 37 = .ok (.aload_n 0, 1) := by decide +kernel
theorem dX14_leave_38 : decode cX14_leave 38 = .ok (.iload_n 1, 1) := by decide +kernel
theorem dX14_leave_39 : decode cX14_leave 39 = .ok (.invokevirtual 374, 3) := by decide +kernel
theorem dX14_leave_42 : decode cX14_leave 42 = .ok (.invokevirtual 125, 3) := by decide +kernel
theorem dX14_leave_45 : decode cX14_leave 45 = .ok (.ireturn, 1) := by decide +kernel
theorem dX14_dies_0 : decode cX14_dies 0 = .ok (.aload_n 0, 1) := by decide +kernel
theorem dX14_dies_1 : decode cX14_dies 1 = .ok (.iconst 0, 1) := by decide +kernel
theorem dX14_dies_2 : decode cX14_dies 2 = .ok (.putfield 112, 3) := by decide +kernel
theorem dX14_dies_5 : decode cX14_dies 5 = .ok (.aload_n 0, 1) := by decide +kernel
theorem dX14_dies_6 : decode cX14_dies 6 = .ok (.iload_n 1, 1) := by decide +kernel
theorem dX14_dies_7 : decode cX14_dies 7 = .ok (.invokevirtual 315, 3) := by decide +kernel
theorem dX14_dies_10 : decode cX14_dies 10 = .ok (.ifCond .ne 9, 3) := by decide +kernel
theorem dX14_dies_13 : decode cX14_dies 13 = .ok (.aload_n 0, 1) := by decide +kernel
theorem dX14_dies_14 : decode cX14_dies 14 = .ok (.iconst 1, 1) := by decide +kernel
theorem dX14_dies_15 : decode cX14_dies 15 = .ok (.invokevirtual 361, 3) := by decide +kernel
theorem dX14_dies_18 : decode cX14_dies 18 = .ok (.ireturn, 1) := by decide +kernel
theorem dX14_dies_19 : decode cX14_dies 19 = .ok (.aload_n 0, 1) := by decide +kernel
theorem dX14_dies_20 : decode cX14_dies 20 = .ok (.getfield 45, 3) := by decide +kernel
theorem dX14_dies_23 : decode cX14_dies 23 = .ok (.iload_n 1, 1) := by decide +kernel
theorem dX14_dies_24 : decode cX14_dies 24 = .ok (.iaload, 1) := by decide +kernel
theorem dX14_dies_25 : decode cX14_dies 25 = .ok (.iconst (-1), 1) := by decide +kernel
theorem dX14_dies_26 : decode cX14_dies 26 = .ok (.if_icmp .eq 9, 3) := by decide +kernel
theorem dX14_dies_29 : decode cX14_dies 29 = .ok (.aload_n 0, 1) := by decide +kernel
theorem dX14_dies_30 : decode cX14_dies 30 = .ok (.iconst 5, 1) := by decide +kernel
theorem dX14_dies_31 : decode cX14_dies 31 = .ok (.invokevirtual 361, 3) := by decide +kernel
theorem dX14_dies_34 : decode cX14_dies 34 = .ok (.ireturn, 1) := by decide +kernel
theorem dX14_dies_35 : decode cX14_dies 35 = .ok (.aload_n 0, 1) := by decide +kernel
theorem dX14_dies_36 : decode cX14_dies 36 = .ok (.getfield 45, 3) := by decide +kernel
theorem dX14_dies_39 : decode cX14_dies 39 = .ok (.iload_n 1, 1) := by decide +kernel
theorem dX14_dies_40 : decode cX14_dies 40 = .ok (.aload_n 0, 1) := by decide +kernel
theorem dX14_dies_41 : decode cX14_dies 41 = .ok (.getfield 312, 3) := by decide +kernel
theorem dX14_dies_44 : decode cX14_dies 44 = .ok (.iastore, 1) := by decide +kernel
theorem dX14_dies_45 : decode cX14_dies 45 = .ok (.aload_n 0, 1) := by decide +kernel
theorem dX14_dies_46 : decode cX14_dies 46 = .ok (.getfield 54, 3) := by decide +kernel
theorem dX14_dies_49 : decode cX14_dies 49 = .ok (.iload_n 1, 1) := by decide +kernel
theorem dX14_dies_50 : decode cX14_dies 50 = .ok (.iaload, 1) := by decide +kernel
theorem dX14_dies_51 : decode cX14_dies 51 = .ok (.iconst (-1), 1) := by decide +kernel
theorem dX14_dies_52 : decode cX14_dies 52 = .ok (.if_icmp .ne 7, 3) := by decide +kernel
theorem dX14_dies_55 : decode cX14_dies 55 = .ok (.iload_n 1, 1) := by decide +kernel
theorem dX14_dies_56 : decode cX14_dies 56 = .ok (.goto 13, 3) := by decide +kernel
theorem dX14_dies_59 : decode cX14_dies 59 = .ok (.aload_n 0, 1) := by decide +kernel
theorem dX14_dies_60 : decode cX14_dies 60 = .ok (.aload_n 0, 1) := by decide +kernel
theorem dX14_dies_61 : decode cX14_dies 61 = .ok (.getfield 54, 3) := by decide +kernel
theorem dX14_dies_64 : decode cX14_dies 64 = .ok (.iload_n 1, 1) := by decide +kernel
theorem dX14_dies_65 : decode cX14_dies 65 = .ok (.iaload, 1) := by decide +kernel
theorem dX14_dies_66 : decode cX14_dies 66 = .ok (.invokevirtual 374, 3) := by decide +kernel
theorem dX14_dies_69 : decode cX14_dies 69 = .ok (.istore_n 2, 1) := by decide +kernel
theorem dX14_dies_70 : decode cX14_dies 70 = .ok (.aload_n 0, 1) := by decide +kernel
theorem dX14_dies_71 : decode cX14_dies 71 = .ok (.getfield 48, 3) := by decide +kernel
theorem dX14_dies_74 : decode cX14_dies 74 = .ok (.iload_n 2, 1) := by decide +kernel
theorem dX14_dies_75 : decode cX14_dies 75 = .ok (.iconst 0, 1) := by decide +kernel
theorem dX14_dies_76 : decode cX14_dies 76 = .ok (.iastore, 1) := by decide +kernel
theorem dX14_dies_77 : decode cX14_dies 77 = .ok (.aload_n 0, 1) := by decide +kernel
theorem dX14_dies_78 : decode cX14_dies 78 = .ok (.invokevirtual 364, 3) := by decide +kernel
theorem dX14_dies_81 : decode cX14_dies 81 = .ok (.ireturn, 1) := by decide +kernel
theorem dX14_roomOf_0 : decode cX14_roomOf 0 = .ok (.aload_n 0, 1) := by decide +kernel
theorem dX14_roomOf_1 : decode cX14_roomOf 1 = .ok (.iconst 0, 1) := by decide +kernel
theorem dX14_roomOf_2 : decode cX14_roomOf 2 = .ok (.putfield 112, 3) := by decide +kernel
theorem dX14_roomOf_5 : decode cX14_roomOf 5 = .ok (.aload_n 0, 1) := by decide +kernel
theorem dX14_roomOf_6 : decode cX14_roomOf 6 = .ok (.iload_n 1, 1) := by decide +kernel
theorem dX14_roomOf_7 : decode cX14_roomOf 7 = .ok (.invokevirtual 368, 3) := by decide +kernel
theorem dX14_roomOf_10 : decode cX14_roomOf 10 = .ok (.ifCond .ne 5, 3) := by decide +kernel
theorem dX14_roomOf_13 : decode cX14_roomOf 13 = .ok (.iconst (-1), 1) := by decide +kernel
theorem dX14_roomOf_14 : decode cX14_roomOf 14 = .ok (.ireturn, 1) := by decide +kernel
theorem dX14_roomOf_15 : decode cX14_roomOf 15 = .ok (.aload_n 0, 1) := by decide +kernel
theorem dX14_roomOf_16 : decode cX14_roomOf 16 = .ok (.getfield 79, 3) := by decide +kernel
theorem dX14_roomOf_19 : decode cX14_roomOf 19 = .ok (.iload_n 1, 1) := by decide +kernel
theorem dX14_roomOf_20 : decode cX14_roomOf 20 = .ok (.iaload, 1) := by decide +kernel
theorem dX14_roomOf_21 : decode cX14_roomOf 21 = .ok (.istore_n 3, 1) := by decide +kernel
theorem dX14_roomOf_22 : decode cX14_roomOf 22 = .ok (.iload_n 2, 1) := by decide +kernel
theorem dX14_roomOf_23 : decode cX14_roomOf 23 = .ok (.tableswitch 77 0 3 #[29, 36, 53, 70], 29) := by decide +kernel
theorem dX14_roomOf_52 : decode cX14_roomOf 52 = .ok (.aload_n 0, 1) := by decide +kernel
theorem dX14_roomOf_53 : decode cX14_roomOf 53 = .ok (.getfield 76, 3) := by decide +kernel
theorem dX14_roomOf_56 : decode cX14_roomOf 56 = .ok (.iload_n 1, 1) := by decide +kernel
theorem dX14_roomOf_57 : decode cX14_roomOf 57 = .ok (.iaload, 1) := by decide +kernel
theorem dX14_roomOf_58 : decode cX14_roomOf 58 = .ok (.ireturn, 1) := by decide +kernel
theorem dX14_roomOf_59 : decode cX14_roomOf 59 = .ok (.iload_n 3, 1) := by decide +kernel
theorem dX14_roomOf_60 : decode cX14_roomOf 60 = .ok (.iconst (-1), 1) := by decide +kernel
theorem dX14_roomOf_61 : decode cX14_roomOf 61 = .ok (.if_icmp .ne 8, 3) := by decide +kernel
theorem dX14_roomOf_64 : decode cX14_roomOf 64 = .ok (.bipush (-2), 2) := by decide +kernel
theorem dX14_roomOf_66 : decode cX14_roomOf 66 = .ok (.goto 9, 3) := by decide +kernel
theorem dX14_roomOf_69 : decode cX14_roomOf 69 = .ok (.aload_n 0, 1) := by decide +kernel
theorem dX14_roomOf_70 : decode cX14_roomOf 70 = .ok (.getfield 88, 3) := by decide +kernel
theorem dX14_roomOf_73 : decode cX14_roomOf 73 = .ok (.iload_n 3, 1) := by decide +kernel
theorem dX14_roomOf_74 : decode cX14_roomOf 74 = .ok (.iaload, 1) := by decide +kernel
theorem dX14_roomOf_75 : decode cX14_roomOf 75 = .ok (.ireturn, 1) := by decide +kernel
theorem dX14_roomOf_76 : decode cX14_roomOf 76 = .ok (.iload_n 3, 1) := by decide +kernel
theorem dX14_roomOf_77 : decode cX14_roomOf 77 = .ok (.iconst (-1), 1) := by decide +kernel
theorem dX14_roomOf_78 : decode cX14_roomOf 78 = .ok (.if_icmp .ne 8, 3) := by decide +kernel
theorem dX14_roomOf_81 : decode cX14_roomOf 81 = .ok (.bipush (-2), 2) := by decide +kernel
theorem dX14_roomOf_83 : decode cX14_roomOf 83 = .ok (.goto 9, 3) := by decide +kernel
theorem dX14_roomOf_86 : decode cX14_roomOf 86 = .ok (.aload_n 0, 1) := by decide +kernel
theorem dX14_roomOf_87 : decode cX14_roomOf 87 = .ok (.getfield 91, 3) := by decide +kernel
theorem dX14_roomOf_90 : decode cX14_roomOf 90 = .ok (.iload_n 3, 1) := by decide +kernel
theorem dX14_roomOf_91 : decode cX14_roomOf 91 = .ok (.iaload, 1) := by decide +kernel
theorem dX14_roomOf_92 : decode cX14_roomOf 92 = .ok (.ireturn, 1) := by decide +kernel
theorem dX14_roomOf_93 : decode cX14_roomOf 93 = .ok (.aload_n 0, 1) := by decide +kernel
theorem dX14_roomOf_94 : decode cX14_roomOf 94 = .ok (.getfield 82, 3) := by decide +kernel
theorem dX14_roomOf_97 : decode cX14_roomOf 97 = .ok (.iload_n 1, 1) := by decide +kernel
theorem dX14_roomOf_98 : decode cX14_roomOf 98 = .ok (.iaload, 1) := by decide +kernel
theorem dX14_roomOf_99 : decode cX14_roomOf 99 = .ok (.ireturn, 1) := by decide +kernel
theorem dX14_roomOf_100 : decode cX14_roomOf 100 = .ok (.iconst (-1), 1) := by decide +kernel
theorem dX14_roomOf_101 : decode cX14_roomOf 101 = .ok (.ireturn, 1) := by decide +kernel
theorem dX14_had_0 : decode cX14_had 0 = .ok (.aload_n 0, 1) := by decide +kernel
theorem dX14_had_1 : decode cX14_had 1 = .ok (.iconst 0, 1) := by decide +kernel
theorem dX14_had_2 : decode cX14_had 2 = .ok (.putfield 112, 3) := by decide +kernel
theorem dX14_had_5 : decode cX14_had 5 = .ok (.aload_n 0, 1) := by decide +kernel
theorem dX14_had_6 : decode cX14_had 6 = .ok (.iload_n 1, 1) := by decide +kernel
theorem dX14_had_7 : decode cX14_had 7 = .ok (.invokevirtual 368, 3) := by decide +kernel
theorem dX14_had_10 : decode cX14_had 10 = .ok (.ifCond .eq 15, 3) := by decide +kernel
theorem dX14_had_13 : decode cX14_had 13 = .ok (.iload_n 2, 1) := by decide +kernel
theorem dX14_had_14 : decode cX14_had 14 = .ok (.ifCond .lt 11, 3) := by decide +kernel
theorem dX14_had_17 : decode cX14_had 17 = .ok (.iload_n 2, 1) := by decide +kernel
theorem dX14_had_18 : decode cX14_had 18 = .ok (.aload_n 0, 1) := by decide +kernel
theorem dX14_had_19 : decode cX14_had 19 = .ok (.getfield 312, 3) := by decide +kernel
theorem dX14_had_22 : decode cX14_had 22 = .ok (.if_icmp .lt 5, 3) := by decide +kernel
theorem dX14_had_25 : decode cX14_had 25 = .ok (.iconst (-1), 1) := by decide +kernel
theorem dX14_had_26 : decode cX14_had 26 = .ok (.ireturn, 1) := by decide +kernel
theorem dX14_had_27 : decode cX14_had 27 = .ok (.bipush (-2), 2) := by decide +kernel
theorem dX14_had_29 : decode cX14_had 29 = .ok (.istore_n 3, 1) := by decide +kernel
theorem dX14_had_30 : decode cX14_had 30 = .ok (.iconst 0, 1) := by decide +kernel
theorem dX14_had_31 : decode cX14_had 31 = .ok (.istore 4, 2) := by decide +kernel
theorem dX14_had_33 : decode cX14_had 33 = .ok (.iload 4, 2) := by decide +kernel
theorem dX14_had_35 : decode cX14_had 35 = .ok (.aload_n 0, 1) := by decide +kernel
theorem dX14_had_36 : decode cX14_had 36 = .ok (.getfield 371, 3) := by decide +kernel
theorem dX14_had_39 : decode cX14_had 39 = .ok (.if_icmp .ge 61, 3) := by decide +kernel
theorem dX14_had_42 : decode cX14_had 42 = .ok (.aload_n 0, 1) := by decide +kernel
theorem dX14_had_43 : decode cX14_had 43 = .ok (.getfield 85, 3) := by decide +kernel
theorem dX14_had_46 : decode cX14_had 46 = .ok (.iload 4, 2) := by decide +kernel
theorem dX14_had_48 : decode cX14_had 48 = .ok (.iaload, 1) := by decide +kernel
theorem dX14_had_49 : decode cX14_had 49 = .ok (.iload_n 1, 1) := by decide +kernel
theorem dX14_had_50 : decode cX14_had 50 = .ok (.if_icmp .ne 44, 3) := by decide +kernel
theorem dX14_had_53 : decode cX14_had 53 = .ok (.aload_n 0, 1) := by decide +kernel
theorem dX14_had_54 : decode cX14_had 54 = .ok (.getfield 91, 3) := by decide +kernel
theorem dX14_had_57 : decode cX14_had 57 = .ok (.iload 4, 2) := by decide +kernel
theorem dX14_had_59 : decode cX14_had 59 = .ok (.iaload, 1) := by decide +kernel
theorem dX14_had_60 : decode cX14_had 60 = .ok (.iload_n 2, 1) := by decide +kernel
theorem dX14_had_61 : decode cX14_had 61 = .ok (.if_icmp .gt 33, 3) := by decide +kernel
theorem dX14_had_64 : decode cX14_had 64 = .ok (.aload_n 0, 1) := by decide +kernel
theorem dX14_had_65 : decode cX14_had 65 = .ok (.getfield 94, 3) := by decide +kernel
theorem dX14_had_68 : decode cX14_had 68 = .ok (.iload 4, 2) := by decide +kernel
theorem dX14_had_70 : decode cX14_had 70 = .ok (.iaload, 1) := by decide +kernel
theorem dX14_had_71 : decode cX14_had 71 = .ok (.iconst (-1), 1) := by decide +kernel
theorem dX14_had_72 : decode cX14_had 72 = .ok (.if_icmp .eq 14, 3) := by decide +kernel
theorem dX14_had_75 : decode cX14_had 75 = .ok (.aload_n 0, 1) := by decide +kernel
theorem dX14_had_76 : decode cX14_had 76 = .ok (.getfield 94, 3) := by decide +kernel
theorem dX14_had_79 : decode cX14_had 79 = .ok (.iload 4, 2) := by decide +kernel
theorem dX14_had_81 : decode cX14_had 81 = .ok (.iaload, 1) := by decide +kernel
theorem dX14_had_82 : decode cX14_had 82 = .ok (.iload_n 2, 1) := by decide +kernel
theorem dX14_had_83 : decode cX14_had 83 = .ok (.if_icmp .le 11, 3) := by decide +kernel
theorem dX14_had_86 : decode cX14_had 86 = .ok (.aload_n 0, 1) := by decide +kernel
theorem dX14_had_87 : decode cX14_had 87 = .ok (.getfield 88, 3) := by decide +kernel
theorem dX14_had_90 : decode cX14_had 90 = .ok (.iload 4, 2) := by decide +kernel
theorem dX14_had_92 : decode cX14_had 92 = .ok (.iaload, 1) := by decide +kernel
theorem dX14_had_93 : decode cX14_had 93 = .ok (.istore_n 3, 1) := by decide +kernel
theorem dX14_had_94 : decode cX14_had 94 = .ok (.iinc 4 1, 3) := by decide +kernel
theorem dX14_had_97 : decode cX14_had 97 = .ok (.goto (-64), 3) := by decide +kernel
theorem dX14_had_100 : decode cX14_had 100 = .ok (.iload_n 3, 1) := by decide +kernel
theorem dX14_had_101 : decode cX14_had 101 = .ok (.ireturn, 1) := by decide +kernel
theorem dX14_land_0 : decode cX14_land 0 = .ok (.aload_n 0, 1) := by decide +kernel
theorem dX14_land_1 : decode cX14_land 1 = .ok (.iconst 0, 1) := by decide +kernel
theorem dX14_land_2 : decode cX14_land 2 = .ok (.putfield 112, 3) := by decide +kernel
theorem dX14_land_5 : decode cX14_land 5 = .ok (.iload_n 1, 1) := by decide +kernel
theorem dX14_land_6 : decode cX14_land 6 = .ok (.iconst 0, 1) := by decide +kernel
theorem dX14_land_7 : decode cX14_land 7 = .ok (.sipush 9999, 3) := by decide +kernel
theorem dX14_land_10 : decode cX14_land 10 = .ok (.invokestatic 231, 3) := by decide +kernel
theorem dX14_land_13 : decode cX14_land 13 = .ok (.ifCond .eq 30, 3) := by decide +kernel
theorem dX14_land_16 : decode cX14_land 16 = .ok (.iload_n 2, 1) := by decide +kernel
theorem dX14_land_17 : decode cX14_land 17 = .ok (.iconst 1, 1) := by decide +kernel
theorem dX14_land_18 : decode cX14_land 18 = .ok (.sipush 400, 3) := by decide +kernel
theorem dX14_land_21 : decode cX14_land 21 = .ok (.invokestatic 231, 3) := by decide +kernel
theorem dX14_land_24 : decode cX14_land 24 = .ok (.ifCond .eq 19, 3) := by decide +kernel
theorem dX14_land_27 : decode cX14_land 27 = .ok (.iload_n 3, 1) := by decide +kernel
theorem dX14_land_28 : decode cX14_land 28 = .ok (.aload_n 0, 1) := by decide +kernel
theorem dX14_land_29 : decode cX14_land 29 = .ok (.getfield 312, 3) := by decide +kernel
theorem dX14_land_32 : decode cX14_land 32 = .ok (.iconst 1, 1) := by decide +kernel
theorem dX14_land_33 : decode cX14_land 33 = .ok (.iadd, 1) := by decide +kernel
theorem dX14_land_34 : decode cX14_land 34 = .ok (.ldc_w 273, 3) := by decide +kernel
theorem dX14_land_37 : decode cX14_land 37 = .ok (.invokestatic 231, 3) := by decide +kernel
theorem dX14_land_40 : decode cX14_land 40 = .ok (.ifCond .ne 9, 3) := by decide +kernel
theorem dX14_land_43 : decode cX14_land 43 = .ok (.aload_n 0, 1) := by decide +kernel
theorem dX14_land_44 : decode cX14_land 44 = .ok (.iconst 2, 1) := by decide +kernel
theorem dX14_land_45 : decode cX14_land 45 = .ok (.invokevirtual 121, 3) := by decide +kernel
theorem dX14_land_48 : decode cX14_land 48 = .ok (.ireturn, 1) := by decide +kernel
theorem dX14_land_49 : decode cX14_land 49 = .ok (.aload_n 0, 1) := by decide +kernel
theorem dX14_land_50 : decode cX14_land 50 = .ok (.getfield 377, 3) := by decide +kernel
theorem dX14_land_53 : decode cX14_land 53 = .ok (.bipush 10, 2) := by decide +kernel
theorem dX14_land_55 : decode cX14_land 55 = .ok (.if_icmp .ne 9, 3) := by decide +kernel
theorem dX14_land_58 : decode cX14_land 58 = .ok (.aload_n 0, 1) := by decide +kernel
theorem dX14_land_59 : decode cX14_land 59 = .ok (.iconst 3, 1) := by decide +kernel
theorem dX14_land_60 : decode cX14_land 60 = .ok (.invokevirtual 121, 3) := by decide +kernel
theorem dX14_land_63 : decode cX14_land 63 = .ok (.ireturn, 1) := by decide +kernel
theorem dX14_land_64 : decode cX14_land 64 = .ok (.aload_n 0, 1) := by decide +kernel
end
section
theorem dX14_land_65 : decode cX14_land 65 = .ok (.getfield 103, 3) := by decide +kernel
theorem dX14_land_68 : decode cX14_land 68 = .ok (.aload_n 0, 1) := by decide +kernel
theorem dX14_land_69 : decode cX14_land 69 = .ok (.getfield 377, 3) := by decide +kernel
theorem dX14_land_72 : decode cX14_land 72 = .ok (.iload_n 1, 1) := by decide +kernel
theorem dX14_land_73 : decode cX14_land 73 = .ok (.iastore, 1) := by decide +kernel
theorem dX14_land_74 : decode cX14_land 74 = .ok (.aload_n 0, 1) := by decide +kernel
theorem dX14_land_75 : decode cX14_land 75 = .ok (.getfield 106, 3) := by decide +kernel
theorem dX14_land_78 : decode cX14_land 78 = .ok (.aload_n 0, 1) := by decide +kernel
theorem dX14_land_79 : decode cX14_land 79 = .ok (.getfield 377, 3) := by decide +kernel
theorem dX14_land_82 : decode cX14_land 82 = .ok (.iload_n 2, 1) := by decide +kernel
theorem dX14_land_83 : decode cX14_land 83 = .ok (.iastore, 1) := by decide +kernel
theorem dX14_land_84 : decode cX14_land 84 = .ok (.aload_n 0, 1) := by decide +kernel
theorem dX14_land_85 : decode cX14_land 85 = .ok (.getfield 109, 3) := by decide +kernel
theorem dX14_land_88 : decode cX14_land 88 = .ok (.aload_n 0, 1) := by decide +kernel
theorem dX14_land_89 : decode cX14_land 89 = .ok (.getfield 377, 3) := by decide +kernel
theorem dX14_land_92 : decode cX14_land 92 = .ok (.iload_n 3, 1) := by decide +kernel
theorem dX14_land_93 : decode cX14_land 93 = .ok (.iastore, 1) := by decide +kernel
theorem dX14_land_94 : decode cX14_land 94 = .ok (.aload_n 0, 1) := by decide +kernel
theorem dX14_land_95 : decode cX14_land 95 = .ok (.dup, 1) := by decide +kernel
theorem dX14_land_96 : decode cX14_land 96 = .ok (.getfield 377, 3) := by decide +kernel
theorem dX14_land_99 : decode cX14_land 99 = .ok (.iconst 1, 1) := by decide +kernel
theorem dX14_land_100 : decode cX14_land 100 = .ok (.iadd, 1) := by decide +kernel
theorem dX14_land_101 : decode cX14_land 101 = .ok (.putfield 377, 3) := by decide +kernel
theorem dX14_land_104 : decode cX14_land 104 = .ok (.aload_n 0, 1) := by decide +kernel
theorem dX14_land_105 : decode cX14_land 105 = .ok (.aload_n 0, 1) := by decide +kernel
theorem dX14_land_106 : decode cX14_land 106 = .ok (.getfield 377, 3) := by decide +kernel
theorem dX14_land_109 : decode cX14_land 109 = .ok (.iconst 1, 1) := by decide +kernel
theorem dX14_land_110 : decode cX14_land 110 = .ok (.isub, 1) := by decide +kernel
theorem dX14_land_111 : decode cX14_land 111 = .ok (.invokevirtual 125, 3) := by decide +kernel
theorem dX14_land_114 : decode cX14_land 114 = .ok (.ireturn, 1) := by decide +kernel
theorem dX14_dole_0 : decode cX14_dole 0 = .ok (.aload_n 0, 1) := by decide +kernel
theorem dX14_dole_1 : decode cX14_dole 1 = .ok (.iconst 0, 1) := by decide +kernel
theorem dX14_dole_2 : decode cX14_dole 2 = .ok (.putfield 112, 3) := by decide +kernel
theorem dX14_dole_5 : decode cX14_dole 5 = .ok (.iload_n 1, 1) := by decide +kernel
theorem dX14_dole_6 : decode cX14_dole 6 = .ok (.iconst 0, 1) := by decide +kernel
theorem dX14_dole_7 : decode cX14_dole 7 = .ok (.sipush 999, 3) := by decide +kernel
theorem dX14_dole_10 : decode cX14_dole 10 = .ok (.invokestatic 231, 3) := by decide +kernel
theorem dX14_dole_13 : decode cX14_dole 13 = .ok (.ifCond .ne 9, 3) := by decide +kernel
theorem dX14_dole_16 : decode cX14_dole 16 = .ok (.aload_n 0, 1) := by decide +kernel
theorem dX14_dole_17 : decode cX14_dole 17 = .ok (.iconst 2, 1) := by decide +kernel
theorem dX14_dole_18 : decode cX14_dole 18 = .ok (.invokevirtual 361, 3) := by decide +kernel
theorem dX14_dole_21 : decode cX14_dole 21 = .ok (.ireturn, 1) := by decide +kernel
theorem dX14_dole_22 : decode cX14_dole 22 = .ok (.aload_n 0, 1) := by decide +kernel
theorem dX14_dole_23 : decode cX14_dole 23 = .ok (.iload_n 1, 1) := by decide +kernel
theorem dX14_dole_24 : decode cX14_dole 24 = .ok (.putfield 100, 3) := by decide +kernel
theorem dX14_dole_27 : decode cX14_dole 27 = .ok (.aload_n 0, 1) := by decide +kernel
theorem dX14_dole_28 : decode cX14_dole 28 = .ok (.invokevirtual 364, 3) := by decide +kernel
theorem dX14_dole_31 : decode cX14_dole 31 = .ok (.ireturn, 1) := by decide +kernel
theorem dX14_day_0 : decode cX14_day 0 = .ok (.aload_n 0, 1) := by decide +kernel
theorem dX14_day_1 : decode cX14_day 1 = .ok (.dup, 1) := by decide +kernel
theorem dX14_day_2 : decode cX14_day 2 = .ok (.getfield 312, 3) := by decide +kernel
theorem dX14_day_5 : decode cX14_day 5 = .ok (.iconst 1, 1) := by decide +kernel
theorem dX14_day_6 : decode cX14_day 6 = .ok (.iadd, 1) := by decide +kernel
theorem dX14_day_7 : decode cX14_day 7 = .ok (.putfield 312, 3) := by decide +kernel
theorem dX14_day_10 : decode cX14_day 10 = .ok (.iconst 0, 1) := by decide +kernel
theorem dX14_day_11 : decode cX14_day 11 = .ok (.istore_n 1, 1) := by decide +kernel
theorem dX14_day_12 : decode cX14_day 12 = .ok (.iload_n 1, 1) := by decide +kernel
theorem dX14_day_13 : decode cX14_day 13 = .ok (.aload_n 0, 1) := by decide +kernel
theorem dX14_day_14 : decode cX14_day 14 = .ok (.getfield 377, 3) := by decide +kernel
theorem dX14_day_17 : decode cX14_day 17 = .ok (.if_icmp .ge 91, 3) := by decide +kernel
theorem dX14_day_20 : decode cX14_day 20 = .ok (.aload_n 0, 1) := by decide +kernel
theorem dX14_day_21 : decode cX14_day 21 = .ok (.getfield 312, 3) := by decide +kernel
theorem dX14_day_24 : decode cX14_day 24 = .ok (.aload_n 0, 1) := by decide +kernel
theorem dX14_day_25 : decode cX14_day 25 = .ok (.getfield 109, 3) := by decide +kernel
theorem dX14_day_28 : decode cX14_day 28 = .ok (.iload_n 1, 1) := by decide +kernel
theorem dX14_day_29 : decode cX14_day 29 = .ok (.iaload, 1) := by decide +kernel
theorem dX14_day_30 : decode cX14_day 30 = .ok (.if_icmp .lt 72, 3) := by decide +kernel
theorem dX14_day_33 : decode cX14_day 33 = .ok (.aload_n 0, 1) := by decide +kernel
theorem dX14_day_34 : decode cX14_day 34 = .ok (.getfield 312, 3) := by decide +kernel
theorem dX14_day_37 : decode cX14_day 37 = .ok (.aload_n 0, 1) := by decide +kernel
theorem dX14_day_38 : decode cX14_day 38 = .ok (.getfield 109, 3) := by decide +kernel
theorem dX14_day_41 : decode cX14_day 41 = .ok (.iload_n 1, 1) := by decide +kernel
theorem dX14_day_42 : decode cX14_day 42 = .ok (.iaload, 1) := by decide +kernel
theorem dX14_day_43 : decode cX14_day 43 = .ok (.isub, 1) := by decide +kernel
theorem dX14_day_44 : decode cX14_day 44 = .ok (.aload_n 0, 1) := by decide +kernel
theorem dX14_day_45 : decode cX14_day 45 = .ok (.getfield 106, 3) := by decide +kernel
theorem dX14_day_48 : decode cX14_day 48 = .ok (.iload_n 1, 1) := by decide +kernel
theorem dX14_day_49 : decode cX14_day 49 = .ok (.iaload, 1) := by decide +kernel
theorem dX14_day_50 : decode cX14_day 50 = .ok (.irem, 1) := by decide +kernel
theorem dX14_day_51 : decode cX14_day 51 = .ok (.ifCond .eq 6, 3) := by decide +kernel
theorem dX14_day_54 : decode cX14_day 54 = .ok (.goto 48, 3) := by decide +kernel
theorem dX14_day_57 : decode cX14_day 57 = .ok (.aload_n 0, 1) := by decide +kernel
theorem dX14_day_58 : decode cX14_day 58 = .ok (.ldc_w 380, 3) := by decide +kernel
theorem dX14_day_61 : decode cX14_day 61 = .ok (.aload_n 0, 1) := by decide +kernel
theorem dX14_day_62 : decode cX14_day 62 = .ok (.getfield 381, 3) := by decide +kernel
theorem dX14_day_65 : decode cX14_day 65 = .ok (.aload_n 0, 1) := by decide +kernel
theorem dX14_day_66 : decode cX14_day 66 = .ok (.getfield 103, 3) := by decide +kernel
theorem dX14_day_69 : decode cX14_day 69 = .ok (.iload_n 1, 1) := by decide +kernel
theorem dX14_day_70 : decode cX14_day 70 = .ok (.iaload, 1) := by decide +kernel
theorem dX14_day_71 : decode cX14_day 71 = .ok (.iadd, 1) := by decide +kernel
theorem dX14_day_72 : decode cX14_day 72 = .ok (.invokestatic 384, 3) := by decide +kernel
theorem dX14_day_75 : decode cX14_day 75 = .ok (.putfield 381, 3) := by decide +kernel
theorem dX14_day_78 : decode cX14_day 78 = .ok (.aload_n 0, 1) := by decide +kernel
theorem dX14_day_79 : decode cX14_day 79 = .ok (.ldc2_w 387, 3) := by decide +kernel
theorem dX14_day_82 : decode cX14_day 82 = .ok (.aload_n 0, 1) := by decide +kernel
theorem dX14_day_83 : decode cX14_day 83 = .ok (.getfield 389, 3) := by decide +kernel
theorem dX14_day_86 : decode cX14_day 86 = .ok (.i2l, 1) := by decide +kernel
theorem dX14_day_87 : decode cX14_day 87 = .ok (.aload_n 0, 1) := by decide +kernel
theorem dX14_day_88 : decode cX14_day 88 = .ok (.getfield 103, 3) := by decide +kernel
theorem dX14_day_91 : decode cX14_day 91 = .ok (.iload_n 1, 1) := by decide +kernel
theorem dX14_day_92 : decode cX14_day 92 = .ok (.iaload, 1) := by decide +kernel
theorem dX14_day_93 : decode cX14_day 93 = .ok (.i2l, 1) := by decide +kernel
theorem dX14_day_94 : decode cX14_day 94 = .ok (.ladd, 1) := by decide +kernel
theorem dX14_day_95 : decode cX14_day 95 = .ok (.invokestatic 392, 3) := by decide +kernel
theorem dX14_day_98 : decode cX14_day 98 = .ok (.l2i, 1) := by decide +kernel
theorem dX14_day_99 : decode cX14_day 99 = .ok (.putfield 389, 3) := by decide +kernel
theorem dX14_day_102 : decode cX14_day 102 = .ok (.iinc 1 1, 3) := by decide +kernel
theorem dX14_day_105 : decode cX14_day 105 = .ok (.goto (-93), 3) := by decide +kernel
theorem dX14_day_108 : decode cX14_day 108 = .ok (.iconst 0, 1) := by decide +kernel
theorem dX14_day_109 : decode cX14_day 109 = .ok (.istore_n 1, 1) := by decide +kernel
theorem dX14_day_110 : decode cX14_day 110 = .ok (.iload_n 1, 1) := by decide +kernel
theorem dX14_day_111 : decode cX14_day 111 = .ok (.aload_n 0, 1) := by decide +kernel
theorem dX14_day_112 : decode cX14_day 112 = .ok (.getfield 355, 3) := by decide +kernel
theorem dX14_day_115 : decode cX14_day 115 = .ok (.if_icmp .ge 98, 3) := by decide +kernel
theorem dX14_day_118 : decode cX14_day 118 = .ok (.aload_n 0, 1) := by decide +kernel
theorem dX14_day_119 : decode cX14_day 119 = .ok (.getfield 312, 3) := by decide +kernel
theorem dX14_day_122 : decode cX14_day 122 = .ok (.bipush 7, 2) := by decide +kernel
theorem dX14_day_124 : decode cX14_day 124 = .ok (.irem, 1) := by decide +kernel
theorem dX14_day_125 : decode cX14_day 125 = .ok (.ifCond .ne 88, 3) := by decide +kernel
theorem dX14_day_128 : decode cX14_day 128 = .ok (.aload_n 0, 1) := by decide +kernel
theorem dX14_day_129 : decode cX14_day 129 = .ok (.getfield 79, 3) := by decide +kernel
theorem dX14_day_132 : decode cX14_day 132 = .ok (.iload_n 1, 1) := by decide +kernel
theorem dX14_day_133 : decode cX14_day 133 = .ok (.iaload, 1) := by decide +kernel
theorem dX14_day_134 : decode cX14_day 134 = .ok (.iconst (-1), 1) := by decide +kernel
theorem dX14_day_135 : decode cX14_day 135 = .ok (.if_icmp .ne 6, 3) := by decide +kernel
theorem dX14_day_138 : decode cX14_day 138 = .ok (.goto 69, 3) := by decide +kernel
theorem dX14_day_141 : decode cX14_day 141 = .ok (.aload_n 0, 1) := by decide +kernel
theorem dX14_day_142 : decode cX14_day 142 = .ok (.getfield 88, 3) := by decide +kernel
theorem dX14_day_145 : decode cX14_day 145 = .ok (.aload_n 0, 1) := by decide +kernel
theorem dX14_day_146 : decode cX14_day 146 = .ok (.getfield 79, 3) := by decide +kernel
theorem dX14_day_149 : decode cX14_day 149 = .ok (.iload_n 1, 1) := by decide +kernel
theorem dX14_day_150 : decode cX14_day 150 = .ok (.iaload, 1) := by decide +kernel
theorem dX14_day_151 : decode cX14_day 151 = .ok (.iaload, 1) := by decide +kernel
theorem dX14_day_152 : decode cX14_day 152 = .ok (.istore_n 2, 1) := by decide +kernel
theorem dX14_day_153 : decode cX14_day 153 = .ok (.aload_n 0, 1) := by decide +kernel
theorem dX14_day_154 : decode cX14_day 154 = .ok (.getfield 100, 3) := by decide +kernel
theorem dX14_day_157 : decode cX14_day 157 = .ok (.aload_n 0, 1) := by decide +kernel
theorem dX14_day_158 : decode cX14_day 158 = .ok (.getfield 48, 3) := by decide +kernel
theorem dX14_day_161 : decode cX14_day 161 = .ok (.iload_n 2, 1) := by decide +kernel
theorem dX14_day_162 : decode cX14_day 162 = .ok (.iaload, 1) := by decide +kernel
theorem dX14_day_163 : decode cX14_day 163 = .ok (.iadd, 1) := by decide +kernel
theorem dX14_day_164 : decode cX14_day 164 = .ok (.istore_n 3, 1) := by decide +kernel
theorem dX14_day_165 : decode cX14_day 165 = .ok (.iload_n 3, 1) := by decide +kernel
theorem dX14_day_166 : decode cX14_day 166 = .ok (.aload_n 0, 1) := by decide +kernel
theorem dX14_day_167 : decode cX14_day 167 = .ok (.getfield 381, 3) := by decide +kernel
theorem dX14_day_170 : decode cX14_day 170 = .ok (.invokestatic 384, 3) := by decide +kernel
theorem dX14_day_173 : decode cX14_day 173 = .ok (.istore 4, 2) := by decide +kernel
theorem dX14_day_175 : decode cX14_day 175 = .ok (.aload_n 0, 1) := by decide +kernel
theorem dX14_day_176 : decode cX14_day 176 = .ok (.dup, 1) := by decide +kernel
theorem dX14_day_177 : decode cX14_day 177 = .ok (.getfield 381, 3) := by decide +kernel
theorem dX14_day_180 : decode cX14_day 180 = .ok (.iload 4, 2) := by decide +kernel
theorem dX14_day_182 : decode cX14_day 182 = .ok (.isub, 1) := by decide +kernel
theorem dX14_day_183 : decode cX14_day 183 = .ok (.putfield 381, 3) := by decide +kernel
theorem dX14_day_186 : decode cX14_day 186 = .ok (.aload_n 0, 1) := by decide +kernel
theorem dX14_day_187 : decode cX14_day 187 = .ok (.getfield 51, 3) := by decide +kernel
theorem dX14_day_190 : decode cX14_day 190 = .ok (.iload_n 2, 1) := by decide +kernel
theorem dX14_day_191 : decode cX14_day 191 = .ok (.dup2, 1) := by decide +kernel
theorem dX14_day_192 : decode cX14_day 192 = .ok (.iaload, 1) := by decide +kernel
theorem dX14_day_193 : decode cX14_day 193 = .ok (.iload 4, 2) := by decide +kernel
theorem dX14_day_195 : decode cX14_day 195 = .ok (.iadd, 1) := by decide +kernel
theorem dX14_day_196 : decode cX14_day 196 = .ok (.iastore, 1) := by decide +kernel
theorem dX14_day_197 : decode cX14_day 197 = .ok (.aload_n 0, 1) := by decide +kernel
theorem dX14_day_198 : decode cX14_day 198 = .ok (.getfield 48, 3) := by decide +kernel
theorem dX14_day_201 : decode cX14_day 201 = .ok (.iload_n 2, 1) := by decide +kernel
theorem dX14_day_202 : decode cX14_day 202 = .ok (.iload_n 3, 1) := by decide +kernel
theorem dX14_day_203 : decode cX14_day 203 = .ok (.iload 4, 2) := by decide +kernel
theorem dX14_day_205 : decode cX14_day 205 = .ok (.isub, 1) := by decide +kernel
theorem dX14_day_206 : decode cX14_day 206 = .ok (.iastore, 1) := by decide +kernel
theorem dX14_day_207 : decode cX14_day 207 = .ok (.iinc 1 1, 3) := by decide +kernel
theorem dX14_day_210 : decode cX14_day 210 = .ok (.goto (-100), 3) := by decide +kernel
theorem dX14_day_213 : decode cX14_day 213 = .ok (.return_, 1) := by decide +kernel
theorem dX14_pass_0 : decode cX14_pass 0 = .ok (.aload_n 0, 1) := by decide +kernel
theorem dX14_pass_1 : decode cX14_pass 1 = .ok (.iconst 0, 1) := by decide +kernel
theorem dX14_pass_2 : decode cX14_pass 2 = .ok (.putfield 112, 3) := by decide +kernel
theorem dX14_pass_5 : decode cX14_pass 5 = .ok (.iload_n 1, 1) := by decide +kernel
theorem dX14_pass_6 : decode cX14_pass 6 = .ok (.iconst 1, 1) := by decide +kernel
theorem dX14_pass_7 : decode cX14_pass 7 = .ok (.sipush 400, 3) := by decide +kernel
theorem dX14_pass_10 : decode cX14_pass 10 = .ok (.invokestatic 231, 3) := by decide +kernel
theorem dX14_pass_13 : decode cX14_pass 13 = .ok (.ifCond .eq 15, 3) := by decide +kernel
theorem dX14_pass_16 : decode cX14_pass 16 = .ok (.aload_n 0, 1) := by decide +kernel
theorem dX14_pass_17 : decode cX14_pass 17 = .ok (.getfield 312, 3) := by decide +kernel
theorem dX14_pass_20 : decode cX14_pass 20 = .ok (.iload_n 1, 1) := by decide +kernel
theorem dX14_pass_21 : decode cX14_pass 21 = .ok (.iadd, 1) := by decide +kernel
theorem dX14_pass_22 : decode cX14_pass 22 = .ok (.ldc_w 273, 3) := by decide +kernel
theorem dX14_pass_25 : decode cX14_pass 25 = .ok (.if_icmp .le 9, 3) := by decide +kernel
theorem dX14_pass_28 : decode cX14_pass 28 = .ok (.aload_n 0, 1) := by decide +kernel
theorem dX14_pass_29 : decode cX14_pass 29 = .ok (.iconst 2, 1) := by decide +kernel
theorem dX14_pass_30 : decode cX14_pass 30 = .ok (.invokevirtual 121, 3) := by decide +kernel
theorem dX14_pass_33 : decode cX14_pass 33 = .ok (.ireturn, 1) := by decide +kernel
theorem dX14_pass_34 : decode cX14_pass 34 = .ok (.iconst 0, 1) := by decide +kernel
theorem dX14_pass_35 : decode cX14_pass 35 = .ok (.istore_n 2, 1) := by decide +kernel
theorem dX14_pass_36 : decode cX14_pass 36 = .ok (.iload_n 2, 1) := by decide +kernel
theorem dX14_pass_37 : decode cX14_pass 37 = .ok (.iload_n 1, 1) := by decide +kernel
theorem dX14_pass_38 : decode cX14_pass 38 = .ok (.if_icmp .ge 13, 3) := by decide +kernel
theorem dX14_pass_41 : decode cX14_pass 41 = .ok (.aload_n 0, 1) := by decide +kernel
theorem dX14_pass_42 : decode cX14_pass 42 = .ok (.invokevirtual 395, 3) := by decide +kernel
theorem dX14_pass_45 : decode cX14_pass 45 = .ok (.iinc 2 1, 3) := by decide +kernel
theorem dX14_pass_48 : decode cX14_pass 48 = .ok (.goto (-12), 3) := by decide +kernel
theorem dX14_pass_51 : decode cX14_pass 51 = .ok (.aload_n 0, 1) := by decide +kernel
theorem dX14_pass_52 : decode cX14_pass 52 = .ok (.aload_n 0, 1) := by decide +kernel
theorem dX14_pass_53 : decode cX14_pass 53 = .ok (.getfield 312, 3) := by decide +kernel
theorem dX14_pass_56 : decode cX14_pass 56 = .ok (.invokevirtual 125, 3) := by decide +kernel
theorem dX14_pass_59 : decode cX14_pass 59 = .ok (.ireturn, 1) := by decide +kernel
theorem dX14_owed_0 : decode cX14_owed 0 = .ok (.aload_n 0, 1) := by decide +kernel
theorem dX14_owed_1 : decode cX14_owed 1 = .ok (.iconst 0, 1) := by decide +kernel
theorem dX14_owed_2 : decode cX14_owed 2 = .ok (.putfield 112, 3) := by decide +kernel
theorem dX14_owed_5 : decode cX14_owed 5 = .ok (.aload_n 0, 1) := by decide +kernel
theorem dX14_owed_6 : decode cX14_owed 6 = .ok (.iload_n 1, 1) := by decide +kernel
theorem dX14_owed_7 : decode cX14_owed 7 = .ok (.invokevirtual 315, 3) := by decide +kernel
theorem dX14_owed_10 : decode cX14_owed 10 = .ok (.ifCond .eq 12, 3) := by decide +kernel
theorem dX14_owed_13 : decode cX14_owed 13 = .ok (.aload_n 0, 1) := by decide +kernel
theorem dX14_owed_14 : decode cX14_owed 14 = .ok (.getfield 48, 3) := by decide +kernel
theorem dX14_owed_17 : decode cX14_owed 17 = .ok (.iload_n 1, 1) := by decide +kernel
theorem dX14_owed_18 : decode cX14_owed 18 = .ok (.iaload, 1) := by decide +kernel
theorem dX14_owed_19 : decode cX14_owed 19 = .ok (.goto 4, 3) := by decide +kernel
theorem dX14_owed_22 : decode cX14_owed 22 = .ok (.iconst (-1), 1) := by decide +kernel
theorem dX14_owed_23 : decode cX14_owed 23 = .ok (.ireturn, 1) := by decide +kernel
theorem dX14_got_0 : decode cX14_got 0 = .ok (.aload_n 0, 1) := by decide +kernel
theorem dX14_got_1 : decode cX14_got 1 = .ok (.iconst 0, 1) := by decide +kernel
theorem dX14_got_2 : decode cX14_got 2 = .ok (.putfield 112, 3) := by decide +kernel
theorem dX14_got_5 : decode cX14_got 5 = .ok (.aload_n 0, 1) := by decide +kernel
theorem dX14_got_6 : decode cX14_got 6 = .ok (.iload_n 1, 1) := by decide +kernel
theorem dX14_got_7 : decode cX14_got 7 = .ok (.invokevirtual 315, 3) := by decide +kernel
theorem dX14_got_10 : decode cX14_got 10 = .ok (.ifCond .eq 12, 3) := by decide +kernel
theorem dX14_got_13 : decode cX14_got 13 = .ok (.aload_n 0, 1) := by decide +kernel
theorem dX14_got_14 : decode cX14_got 14 = .ok (.getfield 51, 3) := by decide +kernel
theorem dX14_got_17 : decode cX14_got 17 = .ok (.iload_n 1, 1) := by decide +kernel
theorem dX14_got_18 : decode cX14_got 18 = .ok (.iaload, 1) := by decide +kernel
theorem dX14_got_19 : decode cX14_got 19 = .ok (.goto 4, 3) := by decide +kernel
theorem dX14_got_22 : decode cX14_got 22 = .ok (.iconst (-1), 1) := by decide +kernel
theorem dX14_got_23 : decode cX14_got 23 = .ok (.ireturn, 1) := by decide +kernel
theorem dX14_count_0 : decode cX14_count 0 = .ok (.aload_n 0, 1) := by decide +kernel
theorem dX14_count_1 : decode cX14_count 1 = .ok (.iconst 0, 1) := by decide +kernel
theorem dX14_count_2 : decode cX14_count 2 = .ok (.putfield 112, 3) := by decide +kernel
theorem dX14_count_5 : decode cX14_count 5 = .ok (.iload_n 1, 1) := by decide +kernel
theorem dX14_count_6 : decode cX14_count 6 = .ok (.tableswitch 155 0 11 #[62, 67, 72, 77, 82, 120, 125, 130, 135, 140, 145, 150], 62) := by decide +kernel
theorem dX14_count_68 : decode cX14_count 68 = .ok (.aload_n 0, 1) := by decide +kernel
theorem dX14_count_69 : decode cX14_count 69 = .ok (.getfield 118, 3) := by decide +kernel
theorem dX14_count_72 : decode cX14_count 72 = .ok (.ireturn, 1) := by decide +kernel
theorem dX14_count_73 : decode cX14_count 73 = .ok (.aload_n 0, 1) := by decide +kernel
theorem dX14_count_74 : decode cX14_count 74 = .ok (.getfield 283, 3) := by decide +kernel
theorem dX14_count_77 : decode cX14_count 77 = .ok (.ireturn, 1) := by decide +kernel
theorem dX14_count_78 : decode cX14_count 78 = .ok (.aload_n 0, 1) := by decide +kernel
theorem dX14_count_79 : decode cX14_count 79 = .ok (.getfield 308, 3) := by decide +kernel
theorem dX14_count_82 : decode cX14_count 82 = .ok (.ireturn, 1) := by decide +kernel
theorem dX14_count_83 : decode cX14_count 83 = .ok (.aload_n 0, 1) := by decide +kernel
theorem dX14_count_84 : decode cX14_count 84 = .ok (.getfield 355, 3) := by decide +kernel
theorem dX14_count_87 : decode cX14_count 87 = .ok (.ireturn, 1) := by decide +kernel
theorem dX14_count_88 : decode cX14_count 88 = .ok (.iconst 0, 1) := by decide +kernel
theorem dX14_count_89 : decode cX14_count 89 = .ok (.istore_n 2, 1) := by decide +kernel
theorem dX14_count_90 : decode cX14_count 90 = .ok (.iconst 0, 1) := by decide +kernel
theorem dX14_count_91 : decode cX14_count 91 = .ok (.istore_n 3, 1) := by decide +kernel
theorem dX14_count_92 : decode cX14_count 92 = .ok (.iload_n 3, 1) := by decide +kernel
theorem dX14_count_93 : decode cX14_count 93 = .ok (.aload_n 0, 1) := by decide +kernel
theorem dX14_count_94 : decode cX14_count 94 = .ok (.getfield 355, 3) := by decide +kernel
theorem dX14_count_97 : decode cX14_count 97 = .ok (.if_icmp .ge 27, 3) := by decide +kernel
theorem dX14_count_100 : decode cX14_count 100 = .ok (.iload_n 2, 1) := by decide +kernel
theorem dX14_count_101 : decode cX14_count 101 = .ok (.aload_n 0, 1) := by decide +kernel
theorem dX14_count_102 : decode cX14_count 102 = .ok (.getfield 79, 3) := by decide +kernel
theorem dX14_count_105 : decode cX14_count 105 = .ok (.iload_n 3, 1) := by decide +kernel
theorem dX14_count_106 : decode cX14_count 106 = .ok (.iaload, 1) := by decide +kernel
theorem dX14_count_107 : decode cX14_count 107 = .ok (.iconst (-1), 1) := by decide +kernel
theorem dX14_count_108 : decode cX14_count 108 = .ok (.if_icmp .ne 7, 3) := by decide +kernel
theorem dX14_count_111 : decode cX14_count 111 = .ok (.iconst 1, 1) := by decide +kernel
theorem dX14_count_112 : decode cX14_count 112 = .ok (.goto 4, 3) := by decide +kernel
theorem dX14_count_115 : decode cX14_count 115 = .ok (.iconst 0, 1) := by decide +kernel
theorem dX14_count_116 : decode cX14_count 116 = .ok (.iadd, 1) := by decide +kernel
theorem dX14_count_117 : decode cX14_count 117 = .ok (.istore_n 2, 1) := by decide +kernel
theorem dX14_count_118 : decode cX14_count 118 = .ok (.iinc 3 1, 3) := by decide +kernel
theorem dX14_count_121 : decode cX14_count 121 = .ok (.goto (-29), 3) := by decide +kernel
theorem dX14_count_124 : decode cX14_count 124 = .ok (.iload_n 2, 1) := by decide +kernel
theorem dX14_count_125 : decode cX14_count 125 = .ok (.ireturn, 1) := by decide +kernel
theorem dX14_count_126 : decode cX14_count 126 = .ok (.aload_n 0, 1) := by decide +kernel
theorem dX14_count_127 : decode cX14_count 127 = .ok (.getfield 358, 3) := by decide +kernel
theorem dX14_count_130 : decode cX14_count 130 = .ok (.ireturn, 1) := by decide +kernel
theorem dX14_count_131 : decode cX14_count 131 = .ok (.aload_n 0, 1) := by decide +kernel
theorem dX14_count_132 : decode cX14_count 132 = .ok (.getfield 73, 3) := by decide +kernel
theorem dX14_count_135 : decode cX14_count 135 = .ok (.ireturn, 1) := by decide +kernel
theorem dX14_count_136 : decode cX14_count 136 = .ok (.aload_n 0, 1) := by decide +kernel
theorem dX14_count_137 : decode cX14_count 137 = .ok (.getfield 312, 3) := by decide +kernel
theorem dX14_count_140 : decode cX14_count 140 = .ok (.ireturn, 1) := by decide +kernel
theorem dX14_count_141 : decode cX14_count 141 = .ok (.aload_n 0, 1) := by decide +kernel
theorem dX14_count_142 : decode cX14_count 142 = .ok (.getfield 381, 3) := by decide +kernel
theorem dX14_count_145 : decode cX14_count 145 = .ok (.ireturn, 1) := by decide +kernel
theorem dX14_count_146 : decode cX14_count 146 = .ok (.aload_n 0, 1) := by decide +kernel
theorem dX14_count_147 : decode cX14_count 147 = .ok (.getfield 389, 3) := by decide +kernel
theorem dX14_count_150 : decode cX14_count 150 = .ok (.ireturn, 1) := by decide +kernel
theorem dX14_count_151 : decode cX14_count 151 = .ok (.aload_n 0, 1) := by decide +kernel
theorem dX14_count_152 : decode cX14_count 152 = .ok (.getfield 377, 3) := by decide +kernel
theorem dX14_count_155 : decode cX14_count 155 = .ok (.ireturn, 1) := by decide +kernel
theorem dX14_count_156 : decode cX14_count 156 = .ok (.aload_n 0, 1) := by decide +kernel
theorem dX14_count_157 : decode cX14_count 157 = .ok (.getfield 270, 3) := by decide +kernel
theorem dX14_count_160 : decode cX14_count 160 = .ok (.ireturn, 1) := by decide +kernel
theorem dX14_count_161 : decode cX14_count 161 = .ok (.iconst (-1), 1) := by decide +kernel
theorem dX14_count_162 : decode cX14_count 162 = .ok (.ireturn, 1) := by decide +kernel
theorem dX14_trouble_0 : decode cX14_trouble 0 = .ok (.aload_n 0, 1) := by decide +kernel
theorem dX14_trouble_1 : decode cX14_trouble 1 = .ok (.iconst 0, 1) := by decide +kernel
theorem dX14_trouble_2 : decode cX14_trouble 2 = .ok (.putfield 112, 3) := by decide +kernel
theorem dX14_trouble_5 : decode cX14_trouble 5 = .ok (.aload_n 0, 1) := by decide +kernel
theorem dX14_trouble_6 : decode cX14_trouble 6 = .ok (.getfield 115, 3) := by decide +kernel
theorem dX14_trouble_9 : decode cX14_trouble 9 = .ok (.ireturn, 1) := by decide +kernel
theorem dJ9_max_7cf53_0 : decode cJ9_max_7cf53 0 = .ok (.iload_n 0, 1) := by decide +kernel
theorem dJ9_max_7cf53_1 : decode cJ9_max_7cf53 1 = .ok (.iload_n 1, 1) := by decide +kernel
theorem dJ9_max_7cf53_2 : decode cJ9_max_7cf53 2 = .ok (.if_icmp .lt 7, 3) := by decide +kernel
theorem dJ9_max_7cf53_5 : decode cJ9_max_7cf53 5 = .ok (.iload_n 0, 1) := by decide +kernel
theorem dJ9_max_7cf53_6 : decode cJ9_max_7cf53 6 = .ok (.goto 4, 3) := by decide +kernel
theorem dJ9_max_7cf53_9 : decode cJ9_max_7cf53 9 = .ok (.iload_n 1, 1) := by decide +kernel
theorem dJ9_max_7cf53_10 : decode cJ9_max_7cf53 10 = .ok (.ireturn, 1) := by decide +kernel
theorem dJ9_min_7cf53_0 : decode cJ9_min_7cf53 0 = .ok (.iload_n 0, 1) := by decide +kernel
theorem dJ9_min_7cf53_1 : decode cJ9_min_7cf53 1 = .ok (.iload_n 1, 1) := by decide +kernel
theorem dJ9_min_7cf53_2 : decode cJ9_min_7cf53 2 = .ok (.if_icmp .gt 7, 3) := by decide +kernel
theorem dJ9_min_7cf53_5 : decode cJ9_min_7cf53 5 = .ok (.iload_n 0, 1) := by decide +kernel
theorem dJ9_min_7cf53_6 : decode cJ9_min_7cf53 6 = .ok (.goto 4, 3) := by decide +kernel
theorem dJ9_min_7cf53_9 : decode cJ9_min_7cf53 9 = .ok (.iload_n 1, 1) := by decide +kernel
theorem dJ9_min_7cf53_10 : decode cJ9_min_7cf53 10 = .ok (.ireturn, 1) := by decide +kernel
theorem dJ9_min_f86c9_0 : decode cJ9_min_f86c9 0 = .ok (.lload_n 0, 1) := by decide +kernel
theorem dJ9_min_f86c9_1 : decode cJ9_min_f86c9 1 = .ok (.lload_n 2, 1) := by decide +kernel
theorem dJ9_min_f86c9_2 : decode cJ9_min_f86c9 2 = .ok (.lcmp, 1) := by decide +kernel
theorem dJ9_min_f86c9_3 : decode cJ9_min_f86c9 3 = .ok (.ifCond .gt 7, 3) := by decide +kernel
theorem dJ9_min_f86c9_6 : decode cJ9_min_f86c9 6 = .ok (.lload_n 0, 1) := by decide +kernel
theorem dJ9_min_f86c9_7 : decode cJ9_min_f86c9 7 = .ok (.goto 4, 3) := by decide +kernel
theorem dJ9_min_f86c9_10 : decode cJ9_min_f86c9 10 = .ok (.lload_n 2, 1) := by decide +kernel
theorem dJ9_min_f86c9_11 : decode cJ9_min_f86c9 11 = .ok (.lreturn, 1) := by decide +kernel
theorem dJ0_length_8abf5_0 : decode cJ0_length_8abf5 0 = .ok (.aload_n 0, 1) := by decide +kernel
theorem dJ0_length_8abf5_1 : decode cJ0_length_8abf5 1 = .ok (.getfield 9, 3) := by decide +kernel
theorem dJ0_length_8abf5_4 : decode cJ0_length_8abf5 4 = .ok (.arraylength, 1) := by decide +kernel
theorem dJ0_length_8abf5_5 : decode cJ0_length_8abf5 5 = .ok (.aload_n 0, 1) := by decide +kernel
theorem dJ0_length_8abf5_6 : decode cJ0_length_8abf5 6 = .ok (.invokevirtual 335, 3) := by decide +kernel
theorem dJ0_length_8abf5_9 : decode cJ0_length_8abf5 9 = .ok (.ishr, 1) := by decide +kernel
theorem dJ0_length_8abf5_10 : decode cJ0_length_8abf5 10 = .ok (.ireturn, 1) := by decide +kernel
theorem dJ0_charAt_5068e_0 : decode cJ0_charAt_5068e 0 = .ok (.aload_n 0, 1) := by decide +kernel
theorem dJ0_charAt_5068e_1 : decode cJ0_charAt_5068e 1 = .ok (.invokevirtual 492, 3) := by decide +kernel
theorem dJ0_charAt_5068e_4 : decode cJ0_charAt_5068e 4 = .ok (.ifCond .eq 12, 3) := by decide +kernel
theorem dJ0_charAt_5068e_7 : decode cJ0_charAt_5068e 7 = .ok (.aload_n 0, 1) := by decide +kernel
theorem dJ0_charAt_5068e_8 : decode cJ0_charAt_5068e 8 = .ok (.getfield 9, 3) := by decide +kernel
theorem dJ0_charAt_5068e_11 : decode cJ0_charAt_5068e 11 = .ok (.iload_n 1, 1) := by decide +kernel
theorem dJ0_charAt_5068e_12 : decode cJ0_charAt_5068e 12 = .ok (.invokestatic 495, 3) := by decide +kernel
theorem dJ0_charAt_5068e_15 : decode cJ0_charAt_5068e 15 = .ok (.ireturn, 1) := by decide +kernel
theorem dJ0_charAt_5068e_16 : decode cJ0_charAt_5068e 16 = .ok (.aload_n 0, 1) := by decide +kernel
theorem dJ0_charAt_5068e_17 : decode cJ0_charAt_5068e 17 = .ok (.getfield 9, 3) := by decide +kernel
theorem dJ0_charAt_5068e_20 : decode cJ0_charAt_5068e 20 = .ok (.iload_n 1, 1) := by decide +kernel
theorem dJ0_charAt_5068e_21 : decode cJ0_charAt_5068e 21 = .ok (.invokestatic 498, 3) := by decide +kernel
theorem dJ0_charAt_5068e_24 : decode cJ0_charAt_5068e 24 = .ok (.ireturn, 1) := by decide +kernel
theorem dJ0_coder_7d493_0 : decode cJ0_coder_7d493 0 = .ok (.getstatic 38, 3) := by decide +kernel
theorem dJ0_coder_7d493_3 : decode cJ0_coder_7d493 3 = .ok (.ifCond .eq 10, 3) := by decide +kernel
theorem dJ0_coder_7d493_6 : decode cJ0_coder_7d493 6 = .ok (.aload_n 0, 1) := by decide +kernel
theorem dJ0_coder_7d493_7 : decode cJ0_coder_7d493 7 = .ok (.getfield 15, 3) := by decide +kernel
theorem dJ0_coder_7d493_10 : decode cJ0_coder_7d493 10 = .ok (.goto 4, 3) := by decide +kernel
theorem dJ0_coder_7d493_13 : decode cJ0_coder_7d493 13 = .ok (.iconst 1, 1) := by decide +kernel
theorem dJ0_coder_7d493_14 : decode cJ0_coder_7d493 14 = .ok (.ireturn, 1) := by decide +kernel
theorem dJ0_isLatin1_aae02_0 : decode cJ0_isLatin1_aae02 0 = .ok (.getstatic 38, 3) := by decide +kernel
theorem dJ0_isLatin1_aae02_3 : decode cJ0_isLatin1_aae02 3 = .ok (.ifCond .eq 14, 3) := by decide +kernel
theorem dJ0_isLatin1_aae02_6 : decode cJ0_isLatin1_aae02 6 = .ok (.aload_n 0, 1) := by decide +kernel
theorem dJ0_isLatin1_aae02_7 : decode cJ0_isLatin1_aae02 7 = .ok (.getfield 15, 3) := by decide +kernel
theorem dJ0_isLatin1_aae02_10 : decode cJ0_isLatin1_aae02 10 = .ok (.ifCond .ne 7, 3) := by decide +kernel
theorem dJ0_isLatin1_aae02_13 : decode cJ0_isLatin1_aae02 13 = .ok (.iconst 1, 1) := by decide +kernel
theorem dJ0_isLatin1_aae02_14 : decode cJ0_isLatin1_aae02 14 = .ok (.goto 4, 3) := by decide +kernel
theorem dJ0_isLatin1_aae02_17 : decode cJ0_isLatin1_aae02 17 = .ok (.iconst 0, 1) := by decide +kernel
theorem dJ0_isLatin1_aae02_18 : decode cJ0_isLatin1_aae02 18 = .ok (.ireturn, 1) := by decide +kernel
theorem dJ0_checkIndex_df160_0 : decode cJ0_checkIndex_df160 0 = .ok (.iload_n 0, 1) := by decide +kernel
theorem dJ0_checkIndex_df160_1 : decode cJ0_checkIndex_df160 1 = .ok (.iload_n 1, 1) := by decide +kernel
theorem dJ0_checkIndex_df160_2 : decode cJ0_checkIndex_df160 2 = .ok (.getstatic 1053, 3) := by decide +kernel
theorem dJ0_checkIndex_df160_5 : decode cJ0_checkIndex_df160 5 = .ok (.invokestatic 1059, 3) := by decide +kernel
theorem dJ0_checkIndex_df160_8 : decode cJ0_checkIndex_df160 8 = .ok (.pop, 1) := by decide +kernel
theorem dJ0_checkIndex_df160_9 : decode cJ0_checkIndex_df160 9 = .ok (.return_, 1) := by decide +kernel
theorem dJ1_charAt_3b067_0 : decode cJ1_charAt_3b067 0 = .ok (.iload_n 1, 1) := by decide +kernel
theorem dJ1_charAt_3b067_1 : decode cJ1_charAt_3b067 1 = .ok (.aload_n 0, 1) := by decide +kernel
theorem dJ1_charAt_3b067_2 : decode cJ1_charAt_3b067 2 = .ok (.arraylength, 1) := by decide +kernel
theorem dJ1_charAt_3b067_3 : decode cJ1_charAt_3b067 3 = .ok (.invokestatic 9, 3) := by decide +kernel
theorem dJ1_charAt_3b067_6 : decode cJ1_charAt_3b067 6 = .ok (.aload_n 0, 1) := by decide +kernel
theorem dJ1_charAt_3b067_7 : decode cJ1_charAt_3b067 7 = .ok (.iload_n 1, 1) := by decide +kernel
theorem dJ1_charAt_3b067_8 : decode cJ1_charAt_3b067 8 = .ok (.baload, 1) := by decide +kernel
theorem dJ1_charAt_3b067_9 : decode cJ1_charAt_3b067 9 = .ok (.sipush 255, 3) := by decide +kernel
theorem dJ1_charAt_3b067_12 : decode cJ1_charAt_3b067 12 = .ok (.iand, 1) := by decide +kernel
theorem dJ1_charAt_3b067_13 : decode cJ1_charAt_3b067 13 = .ok (.i2c, 1) := by decide +kernel
theorem dJ1_charAt_3b067_14 : decode cJ1_charAt_3b067 14 = .ok (.ireturn, 1) := by decide +kernel
theorem dJ2_getChar_3b067_0 : decode cJ2_getChar_3b067 0 = .ok (.getstatic 44, 3) := by decide +kernel
theorem dJ2_getChar_3b067_3 : decode cJ2_getChar_3b067 3 = .ok (.ifCond .ne 25, 3) := by decide +kernel
theorem dJ2_getChar_3b067_6 : decode cJ2_getChar_3b067 6 = .ok (.iload_n 1, 1) := by decide +kernel
theorem dJ2_getChar_3b067_7 : decode cJ2_getChar_3b067 7 = .ok (.ifCond .lt 11, 3) := by decide +kernel
theorem dJ2_getChar_3b067_10 : decode cJ2_getChar_3b067 10 = .ok (.iload_n 1, 1) := by decide +kernel
theorem dJ2_getChar_3b067_11 : decode cJ2_getChar_3b067 11 = .ok (.aload_n 0, 1) := by decide +kernel
theorem dJ2_getChar_3b067_12 : decode cJ2_getChar_3b067 12 = .ok (.invokestatic 48, 3) := by decide +kernel
theorem dJ2_getChar_3b067_15 : decode cJ2_getChar_3b067 15 = .ok (.if_icmp .lt 13, 3) := by decide +kernel
theorem dJ2_getChar_3b067_18 : decode cJ2_getChar_3b067 18 = .ok (.new 52, 3) := by decide +kernel
theorem dJ2_getChar_3b067_21 : decode cJ2_getChar_3b067 21 = .ok (.dup, 1) := by decide +kernel
theorem dJ2_getChar_3b067_22 : decode cJ2_getChar_3b067 22 = .ok (.ldc 54, 2) := by decide +kernel
theorem dJ2_getChar_3b067_24 : decode cJ2_getChar_3b067 24 = .ok (.invokespecial 56, 3) := by decide +kernel
theorem dJ2_getChar_3b067_27 : decode cJ2_getChar_3b067 27 = .ok (.athrow, 1) := by decide +kernel
theorem dJ2_getChar_3b067_28 : decode cJ2_getChar_3b067 28 = .ok (.iload_n 1, 1) := by decide +kernel
theorem dJ2_getChar_3b067_29 : decode cJ2_getChar_3b067 29 = .ok (.iconst 1, 1) := by decide +kernel
theorem dJ2_getChar_3b067_30 : decode cJ2_getChar_3b067 30 = .ok (.ishl, 1) := by decide +kernel
theorem dJ2_getChar_3b067_31 : decode cJ2_getChar_3b067 31 = .ok (.istore_n 1, 1) := by decide +kernel
theorem dJ2_getChar_3b067_32 : decode cJ2_getChar_3b067 32 = .ok (.aload_n 0, 1) := by decide +kernel
theorem dJ2_getChar_3b067_33 : decode cJ2_getChar_3b067 33 = .ok (.iload_n 1, 1) := by decide +kernel
theorem dJ2_getChar_3b067_34 : decode cJ2_getChar_3b067 34 = .ok (.iinc 1 1, 3) := by decide +kernel
theorem dJ2_getChar_3b067_37 : decode cJ2_getChar_3b067 37 = .ok (.baload, 1) := by decide +kernel
theorem dJ2_getChar_3b067_38 : decode cJ2_getChar_3b067 38 = .ok (.sipush 255, 3) := by decide +kernel
theorem dJ2_getChar_3b067_41 : decode cJ2_getChar_3b067 41 = .ok (.iand, 1) := by decide +kernel
theorem dJ2_getChar_3b067_42 : decode cJ2_getChar_3b067 42 = .ok (.getstatic 59, 3) := by decide +kernel
theorem dJ2_getChar_3b067_45 : decode cJ2_getChar_3b067 45 = .ok (.ishl, 1) := by decide +kernel
theorem dJ2_getChar_3b067_46 : decode cJ2_getChar_3b067 46 = .ok (.aload_n 0, 1) := by decide +kernel
theorem dJ2_getChar_3b067_47 : decode cJ2_getChar_3b067 47 = .ok (.iload_n 1, 1) := by decide +kernel
theorem dJ2_getChar_3b067_48 : decode cJ2_getChar_3b067 48 = .ok (.baload, 1) := by decide +kernel
theorem dJ2_getChar_3b067_49 : decode cJ2_getChar_3b067 49 = .ok (.sipush 255, 3) := by decide +kernel
theorem dJ2_getChar_3b067_52 : decode cJ2_getChar_3b067 52 = .ok (.iand, 1) := by decide +kernel
theorem dJ2_getChar_3b067_53 : decode cJ2_getChar_3b067 53 = .ok (.getstatic 63, 3) := by decide +kernel
theorem dJ2_getChar_3b067_56 : decode cJ2_getChar_3b067 56 = .ok (.ishl, 1) := by decide +kernel
theorem dJ2_getChar_3b067_57 : decode cJ2_getChar_3b067 57 = .ok (.ior, 1) := by decide +kernel
theorem dJ2_getChar_3b067_58 : decode cJ2_getChar_3b067 58 = .ok (.i2c, 1) := by decide +kernel
theorem dJ2_getChar_3b067_59 : decode cJ2_getChar_3b067 59 = .ok (.ireturn, 1) := by decide +kernel
theorem dJ2_length_9d52b_0 : decode cJ2_length_9d52b 0 = .ok (.aload_n 0, 1) := by decide +kernel
theorem dJ2_length_9d52b_1 : decode cJ2_length_9d52b 1 = .ok (.arraylength, 1) := by decide +kernel
theorem dJ2_length_9d52b_2 : decode cJ2_length_9d52b 2 = .ok (.iconst 1, 1) := by decide +kernel
theorem dJ2_length_9d52b_3 : decode cJ2_length_9d52b 3 = .ok (.ishr, 1) := by decide +kernel
theorem dJ2_length_9d52b_4 : decode cJ2_length_9d52b 4 = .ok (.ireturn, 1) := by decide +kernel
theorem dJ2_charAt_3b067_0 : decode cJ2_charAt_3b067 0 = .ok (.iload_n 1, 1) := by decide +kernel
theorem dJ2_charAt_3b067_1 : decode cJ2_charAt_3b067 1 = .ok (.aload_n 0, 1) := by decide +kernel
theorem dJ2_charAt_3b067_2 : decode cJ2_charAt_3b067 2 = .ok (.invokestatic 67, 3) := by decide +kernel
theorem dJ2_charAt_3b067_5 : decode cJ2_charAt_3b067 5 = .ok (.aload_n 0, 1) := by decide +kernel
theorem dJ2_charAt_3b067_6 : decode cJ2_charAt_3b067 6 = .ok (.iload_n 1, 1) := by decide +kernel
theorem dJ2_charAt_3b067_7 : decode cJ2_charAt_3b067 7 = .ok (.invokestatic 71, 3) := by decide +kernel
theorem dJ2_charAt_3b067_10 : decode cJ2_charAt_3b067 10 = .ok (.ireturn, 1) := by decide +kernel
theorem dJ2_checkIndex_2214a_0 : decode cJ2_checkIndex_2214a 0 = .ok (.iload_n 0, 1) := by decide +kernel
theorem dJ2_checkIndex_2214a_1 : decode cJ2_checkIndex_2214a 1 = .ok (.aload_n 1, 1) := by decide +kernel
theorem dJ2_checkIndex_2214a_2 : decode cJ2_checkIndex_2214a 2 = .ok (.invokestatic 48, 3) := by decide +kernel
theorem dJ2_checkIndex_2214a_5 : decode cJ2_checkIndex_2214a 5 = .ok (.invokestatic 414, 3) := by decide +kernel
theorem dJ2_checkIndex_2214a_8 : decode cJ2_checkIndex_2214a 8 = .ok (.return_, 1) := by decide +kernel
theorem dJxa1e45_init_da8c8_0 : decode cJxa1e45_init_da8c8 0 = .ok (.aload_n 0, 1) := by decide +kernel
theorem dJxa1e45_init_da8c8_1 : decode cJxa1e45_init_da8c8 1 = .ok (.invokespecial 1, 3) := by decide +kernel
theorem dJxa1e45_init_da8c8_4 : decode cJxa1e45_init_da8c8 4 = .ok (.return_, 1) := by decide +kernel
theorem dJxc12de_init_da8c8_0 : decode cJxc12de_init_da8c8 0 = .ok (.aload_n 0, 1) := by decide +kernel
theorem dJxc12de_init_da8c8_1 : decode cJxc12de_init_da8c8 1 = .ok (.invokespecial 1, 3) := by decide +kernel
theorem dJxc12de_init_da8c8_4 : decode cJxc12de_init_da8c8 4 = .ok (.aload_n 0, 1) := by decide +kernel
theorem dJxc12de_init_da8c8_5 : decode cJxc12de_init_da8c8 5 = .ok (.iconst 0, 1) := by decide +kernel
theorem dJxc12de_init_da8c8_6 : decode cJxc12de_init_da8c8 6 = .ok (.putfield 7, 3) := by decide +kernel
theorem dJxc12de_init_da8c8_9 : decode cJxc12de_init_da8c8 9 = .ok (.return_, 1) := by decide +kernel
theorem dJx4a65c_init_da8c8_0 : decode cJx4a65c_init_da8c8 0 = .ok (.aload_n 0, 1) := by decide +kernel
theorem dJx4a65c_init_da8c8_1 : decode cJx4a65c_init_da8c8 1 = .ok (.invokespecial 1, 3) := by decide +kernel
theorem dJx4a65c_init_da8c8_4 : decode cJx4a65c_init_da8c8 4 = .ok (.aload_n 0, 1) := by decide +kernel
theorem dJx4a65c_init_da8c8_5 : decode cJx4a65c_init_da8c8 5 = .ok (.getstatic 39, 3) := by decide +kernel
theorem dJx4a65c_init_da8c8_8 : decode cJx4a65c_init_da8c8 8 = .ok (.putfield 9, 3) := by decide +kernel
theorem dJx4a65c_init_da8c8_11 : decode cJx4a65c_init_da8c8 11 = .ok (.return_, 1) := by decide +kernel
theorem dJx4a65c_grow_92f84_0 : decode cJx4a65c_grow_92f84 0 = .ok (.aload_n 0, 1) := by decide +kernel
theorem dJx4a65c_grow_92f84_1 : decode cJx4a65c_grow_92f84 1 = .ok (.getfield 9, 3) := by decide +kernel
theorem dJx4a65c_grow_92f84_4 : decode cJx4a65c_grow_92f84 4 = .ok (.arraylength, 1) := by decide +kernel
theorem dJx4a65c_grow_92f84_5 : decode cJx4a65c_grow_92f84 5 = .ok (.istore_n 2, 1) := by decide +kernel
theorem dJx4a65c_grow_92f84_6 : decode cJx4a65c_grow_92f84 6 = .ok (.iload_n 2, 1) := by decide +kernel
theorem dJx4a65c_grow_92f84_7 : decode cJx4a65c_grow_92f84 7 = .ok (.ifCond .gt 13, 3) := by decide +kernel
theorem dJx4a65c_grow_92f84_10 : decode cJx4a65c_grow_92f84 10 = .ok (.aload_n 0, 1) := by decide +kernel
theorem dJx4a65c_grow_92f84_11 : decode cJx4a65c_grow_92f84 11 = .ok (.getfield 9, 3) := by decide +kernel
theorem dJx4a65c_grow_92f84_14 : decode cJx4a65c_grow_92f84 14 = .ok (.getstatic 39, 3) := by decide +kernel
theorem dJx4a65c_grow_92f84_17 : decode cJx4a65c_grow_92f84 17 = .ok (.if_acmp .eq 28, 3) := by decide +kernel
theorem dJx4a65c_grow_92f84_20 : decode cJx4a65c_grow_92f84 20 = .ok (.iload_n 2, 1) := by decide +kernel
theorem dJx4a65c_grow_92f84_21 : decode cJx4a65c_grow_92f84 21 = .ok (.iload_n 1, 1) := by decide +kernel
theorem dJx4a65c_grow_92f84_22 : decode cJx4a65c_grow_92f84 22 = .ok (.iload_n 2, 1) := by decide +kernel
theorem dJx4a65c_grow_92f84_23 : decode cJx4a65c_grow_92f84 23 = .ok (.isub, 1) := by decide +kernel
theorem dJx4a65c_grow_92f84_24 : decode cJx4a65c_grow_92f84 24 = .ok (.iload_n 2, 1) := by decide +kernel
theorem dJx4a65c_grow_92f84_25 : decode cJx4a65c_grow_92f84 25 = .ok (.iconst 1, 1) := by decide +kernel
theorem dJx4a65c_grow_92f84_26 : decode cJx4a65c_grow_92f84 26 = .ok (.ishr, 1) := by decide +kernel
theorem dJx4a65c_grow_92f84_27 : decode cJx4a65c_grow_92f84 27 = .ok (.invokestatic 73, 3) := by decide +kernel
theorem dJx4a65c_grow_92f84_30 : decode cJx4a65c_grow_92f84 30 = .ok (.istore_n 3, 1) := by decide +kernel
theorem dJx4a65c_grow_92f84_31 : decode cJx4a65c_grow_92f84 31 = .ok (.aload_n 0, 1) := by decide +kernel
theorem dJx4a65c_grow_92f84_32 : decode cJx4a65c_grow_92f84 32 = .ok (.aload_n 0, 1) := by decide +kernel
theorem dJx4a65c_grow_92f84_33 : decode cJx4a65c_grow_92f84 33 = .ok (.getfield 9, 3) := by decide +kernel
theorem dJx4a65c_grow_92f84_36 : decode cJx4a65c_grow_92f84 36 = .ok (.iload_n 3, 1) := by decide +kernel
theorem dJx4a65c_grow_92f84_37 : decode cJx4a65c_grow_92f84 37 = .ok (.invokestatic 66, 3) := by decide +kernel
theorem dJx4a65c_grow_92f84_40 : decode cJx4a65c_grow_92f84 40 = .ok (.dup_x1, 1) := by decide +kernel
theorem dJx4a65c_grow_92f84_41 : decode cJx4a65c_grow_92f84 41 = .ok (.putfield 9, 3) := by decide +kernel
theorem dJx4a65c_grow_92f84_44 : decode cJx4a65c_grow_92f84 44 = .ok (.areturn, 1) := by decide +kernel
theorem dJx4a65c_grow_92f84_45 : decode cJx4a65c_grow_92f84 45 = .ok (.aload_n 0, 1) := by decide +kernel
theorem dJx4a65c_grow_92f84_46 : decode cJx4a65c_grow_92f84 46 = .ok (.bipush 10, 2) := by decide +kernel
theorem dJx4a65c_grow_92f84_48 : decode cJx4a65c_grow_92f84 48 = .ok (.iload_n 1, 1) := by decide +kernel
theorem dJx4a65c_grow_92f84_49 : decode cJx4a65c_grow_92f84 49 = .ok (.invokestatic 79, 3) := by decide +kernel
theorem dJx4a65c_grow_92f84_52 : decode cJx4a65c_grow_92f84 52 = .ok (.anewarray 7, 3) := by decide +kernel
theorem dJx4a65c_grow_92f84_55 : decode cJx4a65c_grow_92f84 55 = .ok (.dup_x1, 1) := by decide +kernel
theorem dJx4a65c_grow_92f84_56 : decode cJx4a65c_grow_92f84 56 = .ok (.putfield 9, 3) := by decide +kernel
theorem dJx4a65c_grow_92f84_59 : decode cJx4a65c_grow_92f84 59 = .ok (.areturn, 1) := by decide +kernel
theorem dJx4a65c_grow_d5877_0 : decode cJx4a65c_grow_d5877 0 = .ok (.aload_n 0, 1) := by decide +kernel
theorem dJx4a65c_grow_d5877_1 : decode cJx4a65c_grow_d5877 1 = .ok (.aload_n 0, 1) := by decide +kernel
theorem dJx4a65c_grow_d5877_2 : decode cJx4a65c_grow_d5877 2 = .ok (.getfield 48, 3) := by decide +kernel
theorem dJx4a65c_grow_d5877_5 : decode cJx4a65c_grow_d5877 5 = .ok (.iconst 1, 1) := by decide +kernel
theorem dJx4a65c_grow_d5877_6 : decode cJx4a65c_grow_d5877 6 = .ok (.iadd, 1) := by decide +kernel
theorem dJx4a65c_grow_d5877_7 : decode cJx4a65c_grow_d5877 7 = .ok (.invokevirtual 69, 3) := by decide +kernel
theorem dJx4a65c_grow_d5877_10 : decode cJx4a65c_grow_d5877 10 = .ok (.areturn, 1) := by decide +kernel
theorem dJx4a65c_size_8abf5_0 : decode cJx4a65c_size_8abf5 0 = .ok (.aload_n 0, 1) := by decide +kernel
theorem dJx4a65c_size_8abf5_1 : decode cJx4a65c_size_8abf5 1 = .ok (.getfield 48, 3) := by decide +kernel
theorem dJx4a65c_size_8abf5_4 : decode cJx4a65c_size_8abf5 4 = .ok (.ireturn, 1) := by decide +kernel
theorem dJx4a65c_elementData_915e3_0 : decode cJx4a65c_elementData_915e3 0 = .ok (.aload_n 0, 1) := by decide +kernel
theorem dJx4a65c_elementData_915e3_1 : decode cJx4a65c_elementData_915e3 1 = .ok (.getfield 9, 3) := by decide +kernel
theorem dJx4a65c_elementData_915e3_4 : decode cJx4a65c_elementData_915e3 4 = .ok (.iload_n 1, 1) := by decide +kernel
theorem dJx4a65c_elementData_915e3_5 : decode cJx4a65c_elementData_915e3 5 = .ok (.aaload, 1) := by decide +kernel
theorem dJx4a65c_elementData_915e3_6 : decode cJx4a65c_elementData_915e3 6 = .ok (.areturn, 1) := by decide +kernel
theorem dJx4a65c_get_915e3_0 : decode cJx4a65c_get_915e3 0 = .ok (.iload_n 1, 1) := by decide +kernel
theorem dJx4a65c_get_915e3_1 : decode cJx4a65c_get_915e3 1 = .ok (.aload_n 0, 1) := by decide +kernel
theorem dJx4a65c_get_915e3_2 : decode cJx4a65c_get_915e3 2 = .ok (.getfield 48, 3) := by decide +kernel
theorem dJx4a65c_get_915e3_5 : decode cJx4a65c_get_915e3 5 = .ok (.invokestatic 118, 3) := by decide +kernel
theorem dJx4a65c_get_915e3_8 : decode cJx4a65c_get_915e3 8 = .ok (.pop, 1) := by decide +kernel
theorem dJx4a65c_get_915e3_9 : decode cJx4a65c_get_915e3 9 = .ok (.aload_n 0, 1) := by decide +kernel
theorem dJx4a65c_get_915e3_10 : decode cJx4a65c_get_915e3 10 = .ok (.iload_n 1, 1) := by decide +kernel
theorem dJx4a65c_get_915e3_11 : decode cJx4a65c_get_915e3 11 = .ok (.invokevirtual 123, 3) := by decide +kernel
theorem dJx4a65c_get_915e3_14 : decode cJx4a65c_get_915e3 14 = .ok (.areturn, 1) := by decide +kernel
theorem dJx4a65c_add_72be8_0 : decode cJx4a65c_add_72be8 0 = .ok (.iload_n 3, 1) := by decide +kernel
theorem dJx4a65c_add_72be8_1 : decode cJx4a65c_add_72be8 1 = .ok (.aload_n 2, 1) := by decide +kernel
theorem dJx4a65c_add_72be8_2 : decode cJx4a65c_add_72be8 2 = .ok (.arraylength, 1) := by decide +kernel
theorem dJx4a65c_add_72be8_3 : decode cJx4a65c_add_72be8 3 = .ok (.if_icmp .ne 8, 3) := by decide +kernel
theorem dJx4a65c_add_72be8_6 : decode cJx4a65c_add_72be8 6 = .ok (.aload_n 0, 1) := by decide +kernel
theorem dJx4a65c_add_72be8_7 : decode cJx4a65c_add_72be8 7 = .ok (.invokevirtual 129, 3) := by decide +kernel
theorem dJx4a65c_add_72be8_10 : decode cJx4a65c_add_72be8 10 = .ok (.astore_n 2, 1) := by decide +kernel
theorem dJx4a65c_add_72be8_11 : decode cJx4a65c_add_72be8 11 = .ok (.aload_n 2, 1) := by decide +kernel
theorem dJx4a65c_add_72be8_12 : decode cJx4a65c_add_72be8 12 = .ok (.iload_n 3, 1) := by decide +kernel
theorem dJx4a65c_add_72be8_13 : decode cJx4a65c_add_72be8 13 = .ok (.aload_n 1, 1) := by decide +kernel
theorem dJx4a65c_add_72be8_14 : decode cJx4a65c_add_72be8 14 = .ok (.aastore, 1) := by decide +kernel
theorem dJx4a65c_add_72be8_15 : decode cJx4a65c_add_72be8 15 = .ok (.aload_n 0, 1) := by decide +kernel
theorem dJx4a65c_add_72be8_16 : decode cJx4a65c_add_72be8 16 = .ok (.iload_n 3, 1) := by decide +kernel
theorem dJx4a65c_add_72be8_17 : decode cJx4a65c_add_72be8 17 = .ok (.iconst 1, 1) := by decide +kernel
theorem dJx4a65c_add_72be8_18 : decode cJx4a65c_add_72be8 18 = .ok (.iadd, 1) := by decide +kernel
theorem dJx4a65c_add_72be8_19 : decode cJx4a65c_add_72be8 19 = .ok (.putfield 48, 3) := by decide +kernel
theorem dJx4a65c_add_72be8_22 : decode cJx4a65c_add_72be8 22 = .ok (.return_, 1) := by decide +kernel
theorem dJx4a65c_add_9ea2d_0 : decode cJx4a65c_add_9ea2d 0 = .ok (.aload_n 0, 1) := by decide +kernel
theorem dJx4a65c_add_9ea2d_1 : decode cJx4a65c_add_9ea2d 1 = .ok (.dup, 1) := by decide +kernel
theorem dJx4a65c_add_9ea2d_2 : decode cJx4a65c_add_9ea2d 2 = .ok (.getfield 63, 3) := by decide +kernel
theorem dJx4a65c_add_9ea2d_5 : decode cJx4a65c_add_9ea2d 5 = .ok (.iconst 1, 1) := by decide +kernel
theorem dJx4a65c_add_9ea2d_6 : decode cJx4a65c_add_9ea2d 6 = .ok (.iadd, 1) := by decide +kernel
theorem dJx4a65c_add_9ea2d_7 : decode cJx4a65c_add_9ea2d 7 = .ok (.putfield 63, 3) := by decide +kernel
theorem dJx4a65c_add_9ea2d_10 : decode cJx4a65c_add_9ea2d 10 = .ok (.aload_n 0, 1) := by decide +kernel
theorem dJx4a65c_add_9ea2d_11 : decode cJx4a65c_add_9ea2d 11 = .ok (.aload_n 1, 1) := by decide +kernel
theorem dJx4a65c_add_9ea2d_12 : decode cJx4a65c_add_9ea2d 12 = .ok (.aload_n 0, 1) := by decide +kernel
theorem dJx4a65c_add_9ea2d_13 : decode cJx4a65c_add_9ea2d 13 = .ok (.getfield 9, 3) := by decide +kernel
theorem dJx4a65c_add_9ea2d_16 : decode cJx4a65c_add_9ea2d 16 = .ok (.aload_n 0, 1) := by decide +kernel
theorem dJx4a65c_add_9ea2d_17 : decode cJx4a65c_add_9ea2d 17 = .ok (.getfield 48, 3) := by decide +kernel
theorem dJx4a65c_add_9ea2d_20 : decode cJx4a65c_add_9ea2d 20 = .ok (.invokevirtual 131, 3) := by decide +kernel
theorem dJx4a65c_add_9ea2d_23 : decode cJx4a65c_add_9ea2d 23 = .ok (.iconst 1, 1) := by decide +kernel
theorem dJx4a65c_add_9ea2d_24 : decode cJx4a65c_add_9ea2d 24 = .ok (.ireturn, 1) := by decide +kernel
theorem dJ7_copyOf_1904c_0 : decode cJ7_copyOf_1904c 0 = .ok (.aload_n 0, 1) := by decide +kernel
theorem dJ7_copyOf_1904c_1 : decode cJ7_copyOf_1904c 1 = .ok (.iload_n 1, 1) := by decide +kernel
theorem dJ7_copyOf_1904c_2 : decode cJ7_copyOf_1904c 2 = .ok (.aload_n 0, 1) := by decide +kernel
theorem dJ7_copyOf_1904c_3 : decode cJ7_copyOf_1904c 3 = .ok (.invokevirtual 86, 3) := by decide +kernel
theorem dJ7_copyOf_1904c_6 : decode cJ7_copyOf_1904c 6 = .ok (.invokestatic 300, 3) := by decide +kernel
theorem dJ7_copyOf_1904c_9 : decode cJ7_copyOf_1904c 9 = .ok (.areturn, 1) := by decide +kernel
theorem dJ7_copyOf_6403c_0 : decode cJ7_copyOf_6403c 0 = .ok (.aload_n 2, 1) := by decide +kernel
theorem dJ7_copyOf_6403c_1 : decode cJ7_copyOf_6403c 1 = .ok (.ldc 110, 2) := by decide +kernel
theorem dJ7_copyOf_6403c_3 : decode cJ7_copyOf_6403c 3 = .ok (.if_acmp .ne 10, 3) := by decide +kernel
theorem dJ7_copyOf_6403c_6 : decode cJ7_copyOf_6403c 6 = .ok (.iload_n 1, 1) := by decide +kernel
theorem dJ7_copyOf_6403c_7 : decode cJ7_copyOf_6403c 7 = .ok (.anewarray 2, 3) := by decide +kernel
theorem dJ7_copyOf_6403c_10 : decode cJ7_copyOf_6403c 10 = .ok (.goto 14, 3) := by decide +kernel
theorem dJ7_copyOf_6403c_13 : decode cJ7_copyOf_6403c 13 = .ok (.aload_n 2, 1) := by decide +kernel
theorem dJ7_copyOf_6403c_14 : decode cJ7_copyOf_6403c 14 = .ok (.invokevirtual 90, 3) := by decide +kernel
theorem dJ7_copyOf_6403c_17 : decode cJ7_copyOf_6403c 17 = .ok (.iload_n 1, 1) := by decide +kernel
theorem dJ7_copyOf_6403c_18 : decode cJ7_copyOf_6403c 18 = .ok (.invokestatic 95, 3) := by decide +kernel
theorem dJ7_copyOf_6403c_21 : decode cJ7_copyOf_6403c 21 = .ok (.checkcast 110, 3) := by decide +kernel
theorem dJ7_copyOf_6403c_24 : decode cJ7_copyOf_6403c 24 = .ok (.astore_n 3, 1) := by decide +kernel
theorem dJ7_copyOf_6403c_25 : decode cJ7_copyOf_6403c 25 = .ok (.aload_n 0, 1) := by decide +kernel
theorem dJ7_copyOf_6403c_26 : decode cJ7_copyOf_6403c 26 = .ok (.iconst 0, 1) := by decide +kernel
theorem dJ7_copyOf_6403c_27 : decode cJ7_copyOf_6403c 27 = .ok (.aload_n 3, 1) := by decide +kernel
theorem dJ7_copyOf_6403c_28 : decode cJ7_copyOf_6403c 28 = .ok (.iconst 0, 1) := by decide +kernel
theorem dJ7_copyOf_6403c_29 : decode cJ7_copyOf_6403c 29 = .ok (.aload_n 0, 1) := by decide +kernel
theorem dJ7_copyOf_6403c_30 : decode cJ7_copyOf_6403c 30 = .ok (.arraylength, 1) := by decide +kernel
theorem dJ7_copyOf_6403c_31 : decode cJ7_copyOf_6403c 31 = .ok (.iload_n 1, 1) := by decide +kernel
theorem dJ7_copyOf_6403c_32 : decode cJ7_copyOf_6403c 32 = .ok (.invokestatic 304, 3) := by decide +kernel
theorem dJ7_copyOf_6403c_35 : decode cJ7_copyOf_6403c 35 = .ok (.invokestatic 150, 3) := by decide +kernel
theorem dJ7_copyOf_6403c_38 : decode cJ7_copyOf_6403c 38 = .ok (.aload_n 3, 1) := by decide +kernel
theorem dJ7_copyOf_6403c_39 : decode cJ7_copyOf_6403c 39 = .ok (.areturn, 1) := by decide +kernel
theorem dJ7_checkLength_df160_0 : decode cJ7_checkLength_df160 0 = .ok (.iload_n 1, 1) := by decide +kernel
theorem dJ7_checkLength_df160_1 : decode cJ7_checkLength_df160 1 = .ok (.iload_n 0, 1) := by decide +kernel
theorem dJ7_checkLength_df160_2 : decode cJ7_checkLength_df160 2 = .ok (.if_icmp .ge 35, 3) := by decide +kernel
theorem dJ7_checkLength_df160_5 : decode cJ7_checkLength_df160 5 = .ok (.new 43, 3) := by decide +kernel
theorem dJ7_checkLength_df160_8 : decode cJ7_checkLength_df160 8 = .ok (.dup, 1) := by decide +kernel
theorem dJ7_checkLength_df160_9 : decode cJ7_checkLength_df160 9 = .ok (.new 45, 3) := by decide +kernel
theorem dJ7_checkLength_df160_12 : decode cJ7_checkLength_df160 12 = .ok (.dup, 1) := by decide +kernel
theorem dJ7_checkLength_df160_13 : decode cJ7_checkLength_df160 13 = .ok (.invokespecial 47, 3) := by decide +kernel
theorem dJ7_checkLength_df160_16 : decode cJ7_checkLength_df160 16 = .ok (.iload_n 0, 1) := by decide +kernel
theorem dJ7_checkLength_df160_17 : decode cJ7_checkLength_df160 17 = .ok (.invokevirtual 54, 3) := by decide +kernel
theorem dJ7_checkLength_df160_20 : decode cJ7_checkLength_df160 20 = .ok (.ldc_w 337, 3) := by decide +kernel
theorem dJ7_checkLength_df160_23 : decode cJ7_checkLength_df160 23 = .ok (.invokevirtual 50, 3) := by decide +kernel
theorem dJ7_checkLength_df160_26 : decode cJ7_checkLength_df160 26 = .ok (.iload_n 1, 1) := by decide +kernel
theorem dJ7_checkLength_df160_27 : decode cJ7_checkLength_df160 27 = .ok (.invokevirtual 54, 3) := by decide +kernel
theorem dJ7_checkLength_df160_30 : decode cJ7_checkLength_df160 30 = .ok (.invokevirtual 61, 3) := by decide +kernel
theorem dJ7_checkLength_df160_33 : decode cJ7_checkLength_df160 33 = .ok (.invokespecial 65, 3) := by decide +kernel
theorem dJ7_checkLength_df160_36 : decode cJ7_checkLength_df160 36 = .ok (.athrow, 1) := by decide +kernel
theorem dJ7_checkLength_df160_37 : decode cJ7_checkLength_df160 37 = .ok (.return_, 1) := by decide +kernel
theorem dJ7_copyOfRange_feecc_0 : decode cJ7_copyOfRange_feecc 0 = .ok (.iload_n 1, 1) := by decide +kernel
theorem dJ7_copyOfRange_feecc_1 : decode cJ7_copyOfRange_feecc 1 = .ok (.ifCond .ne 9, 3) := by decide +kernel
theorem dJ7_copyOfRange_feecc_4 : decode cJ7_copyOfRange_feecc 4 = .ok (.iload_n 2, 1) := by decide +kernel
theorem dJ7_copyOfRange_feecc_5 : decode cJ7_copyOfRange_feecc 5 = .ok (.aload_n 0, 1) := by decide +kernel
theorem dJ7_copyOfRange_feecc_6 : decode cJ7_copyOfRange_feecc 6 = .ok (.arraylength, 1) := by decide +kernel
theorem dJ7_copyOfRange_feecc_7 : decode cJ7_copyOfRange_feecc 7 = .ok (.if_icmp .eq 10, 3) := by decide +kernel
theorem dJ7_copyOfRange_feecc_10 : decode cJ7_copyOfRange_feecc 10 = .ok (.aload_n 0, 1) := by decide +kernel
theorem dJ7_copyOfRange_feecc_11 : decode cJ7_copyOfRange_feecc 11 = .ok (.iload_n 1, 1) := by decide +kernel
theorem dJ7_copyOfRange_feecc_12 : decode cJ7_copyOfRange_feecc 12 = .ok (.iload_n 2, 1) := by decide +kernel
theorem dJ7_copyOfRange_feecc_13 : decode cJ7_copyOfRange_feecc 13 = .ok (.invokestatic 351, 3) := by decide +kernel
theorem dJ7_copyOfRange_feecc_16 : decode cJ7_copyOfRange_feecc 16 = .ok (.areturn, 1) := by decide +kernel
theorem dJ7_copyOfRange_feecc_17 : decode cJ7_copyOfRange_feecc 17 = .ok (.aload_n 0, 1) := by decide +kernel
theorem dJ7_copyOfRange_feecc_18 : decode cJ7_copyOfRange_feecc 18 = .ok (.invokevirtual 316, 3) := by decide +kernel
theorem dJ7_copyOfRange_feecc_21 : decode cJ7_copyOfRange_feecc 21 = .ok (.checkcast 317, 3) := by decide +kernel
theorem dJ7_copyOfRange_feecc_24 : decode cJ7_copyOfRange_feecc 24 = .ok (.areturn, 1) := by decide +kernel
theorem dJ7_copyOfRangeInt_feecc_0 : decode cJ7_copyOfRangeInt_feecc 0 = .ok (.iload_n 1, 1) := by decide +kernel
theorem dJ7_copyOfRangeInt_feecc_1 : decode cJ7_copyOfRangeInt_feecc 1 = .ok (.iload_n 2, 1) := by decide +kernel
theorem dJ7_copyOfRangeInt_feecc_2 : decode cJ7_copyOfRangeInt_feecc 2 = .ok (.invokestatic 343, 3) := by decide +kernel
theorem dJ7_copyOfRangeInt_feecc_5 : decode cJ7_copyOfRangeInt_feecc 5 = .ok (.iload_n 2, 1) := by decide +kernel
theorem dJ7_copyOfRangeInt_feecc_6 : decode cJ7_copyOfRangeInt_feecc 6 = .ok (.iload_n 1, 1) := by decide +kernel
theorem dJ7_copyOfRangeInt_feecc_7 : decode cJ7_copyOfRangeInt_feecc 7 = .ok (.isub, 1) := by decide +kernel
theorem dJ7_copyOfRangeInt_feecc_8 : decode cJ7_copyOfRangeInt_feecc 8 = .ok (.istore_n 3, 1) := by decide +kernel
theorem dJ7_copyOfRangeInt_feecc_9 : decode cJ7_copyOfRangeInt_feecc 9 = .ok (.iload_n 3, 1) := by decide +kernel
theorem dJ7_copyOfRangeInt_feecc_10 : decode cJ7_copyOfRangeInt_feecc 10 = .ok (.newarray .int, 2) := by decide +kernel
theorem dJ7_copyOfRangeInt_feecc_12 : decode cJ7_copyOfRangeInt_feecc 12 = .ok (.astore 4, 2) := by decide +kernel
theorem dJ7_copyOfRangeInt_feecc_14 : decode cJ7_copyOfRangeInt_feecc 14 = .ok (.aload_n 0, 1) := by decide +kernel
theorem dJ7_copyOfRangeInt_feecc_15 : decode cJ7_copyOfRangeInt_feecc 15 = .ok (.iload_n 1, 1) := by decide +kernel
theorem dJ7_copyOfRangeInt_feecc_16 : decode cJ7_copyOfRangeInt_feecc 16 = .ok (.aload 4, 2) := by decide +kernel
theorem dJ7_copyOfRangeInt_feecc_18 : decode cJ7_copyOfRangeInt_feecc 18 = .ok (.iconst 0, 1) := by decide +kernel
theorem dJ7_copyOfRangeInt_feecc_19 : decode cJ7_copyOfRangeInt_feecc 19 = .ok (.aload_n 0, 1) := by decide +kernel
theorem dJ7_copyOfRangeInt_feecc_20 : decode cJ7_copyOfRangeInt_feecc 20 = .ok (.arraylength, 1) := by decide +kernel
theorem dJ7_copyOfRangeInt_feecc_21 : decode cJ7_copyOfRangeInt_feecc 21 = .ok (.iload_n 1, 1) := by decide +kernel
theorem dJ7_copyOfRangeInt_feecc_22 : decode cJ7_copyOfRangeInt_feecc 22 = .ok (.isub, 1) := by decide +kernel
theorem dJ7_copyOfRangeInt_feecc_23 : decode cJ7_copyOfRangeInt_feecc 23 = .ok (.iload_n 3, 1) := by decide +kernel
theorem dJ7_copyOfRangeInt_feecc_24 : decode cJ7_copyOfRangeInt_feecc 24 = .ok (.invokestatic 304, 3) := by decide +kernel
theorem dJ7_copyOfRangeInt_feecc_27 : decode cJ7_copyOfRangeInt_feecc 27 = .ok (.invokestatic 150, 3) := by decide +kernel
theorem dJ7_copyOfRangeInt_feecc_30 : decode cJ7_copyOfRangeInt_feecc 30 = .ok (.aload 4, 2) := by decide +kernel
theorem dJ7_copyOfRangeInt_feecc_32 : decode cJ7_copyOfRangeInt_feecc 32 = .ok (.areturn, 1) := by decide +kernel
theorem dJ15_checkIndex_7cf53_0 : decode cJ15_checkIndex_7cf53 0 = .ok (.iload_n 0, 1) := by decide +kernel
theorem dJ15_checkIndex_7cf53_1 : decode cJ15_checkIndex_7cf53 1 = .ok (.iload_n 1, 1) := by decide +kernel
theorem dJ15_checkIndex_7cf53_2 : decode cJ15_checkIndex_7cf53 2 = .ok (.aconst_null, 1) := by decide +kernel
theorem dJ15_checkIndex_7cf53_3 : decode cJ15_checkIndex_7cf53 3 = .ok (.invokestatic 105, 3) := by decide +kernel
theorem dJ15_checkIndex_7cf53_6 : decode cJ15_checkIndex_7cf53 6 = .ok (.ireturn, 1) := by decide +kernel
theorem dJ8_newLength_cabcc_0 : decode cJ8_newLength_cabcc 0 = .ok (.iload_n 0, 1) := by decide +kernel
theorem dJ8_newLength_cabcc_1 : decode cJ8_newLength_cabcc 1 = .ok (.iload_n 1, 1) := by decide +kernel
theorem dJ8_newLength_cabcc_2 : decode cJ8_newLength_cabcc 2 = .ok (.iload_n 2, 1) := by decide +kernel
theorem dJ8_newLength_cabcc_3 : decode cJ8_newLength_cabcc 3 = .ok (.invokestatic 194, 3) := by decide +kernel
theorem dJ8_newLength_cabcc_6 : decode cJ8_newLength_cabcc 6 = .ok (.iadd, 1) := by decide +kernel
theorem dJ8_newLength_cabcc_7 : decode cJ8_newLength_cabcc 7 = .ok (.istore_n 3, 1) := by decide +kernel
theorem dJ8_newLength_cabcc_8 : decode cJ8_newLength_cabcc 8 = .ok (.iconst 0, 1) := by decide +kernel
theorem dJ8_newLength_cabcc_9 : decode cJ8_newLength_cabcc 9 = .ok (.iload_n 3, 1) := by decide +kernel
theorem dJ8_newLength_cabcc_10 : decode cJ8_newLength_cabcc 10 = .ok (.if_icmp .ge 11, 3) := by decide +kernel
theorem dJ8_newLength_cabcc_13 : decode cJ8_newLength_cabcc 13 = .ok (.iload_n 3, 1) := by decide +kernel
theorem dJ8_newLength_cabcc_14 : decode cJ8_newLength_cabcc 14 = .ok (.ldc 200, 2) := by decide +kernel
theorem dJ8_newLength_cabcc_16 : decode cJ8_newLength_cabcc 16 = .ok (.if_icmp .gt 5, 3) := by decide +kernel
theorem dJ8_newLength_cabcc_19 : decode cJ8_newLength_cabcc 19 = .ok (.iload_n 3, 1) := by decide +kernel
theorem dJ8_newLength_cabcc_20 : decode cJ8_newLength_cabcc 20 = .ok (.ireturn, 1) := by decide +kernel
theorem dJ8_newLength_cabcc_21 : decode cJ8_newLength_cabcc 21 = .ok (.iload_n 0, 1) := by decide +kernel
theorem dJ8_newLength_cabcc_22 : decode cJ8_newLength_cabcc 22 = .ok (.iload_n 1, 1) := by decide +kernel
theorem dJ8_newLength_cabcc_23 : decode cJ8_newLength_cabcc 23 = .ok (.invokestatic 201, 3) := by decide +kernel
theorem dJ8_newLength_cabcc_26 : decode cJ8_newLength_cabcc 26 = .ok (.ireturn, 1) := by decide +kernel
theorem dJ8_hugeLength_7cf53_0 : decode cJ8_hugeLength_7cf53 0 = .ok (.iload_n 0, 1) := by decide +kernel
theorem dJ8_hugeLength_7cf53_1 : decode cJ8_hugeLength_7cf53 1 = .ok (.iload_n 1, 1) := by decide +kernel
theorem dJ8_hugeLength_7cf53_2 : decode cJ8_hugeLength_7cf53 2 = .ok (.iadd, 1) := by decide +kernel
theorem dJ8_hugeLength_7cf53_3 : decode cJ8_hugeLength_7cf53 3 = .ok (.istore_n 2, 1) := by decide +kernel
theorem dJ8_hugeLength_7cf53_4 : decode cJ8_hugeLength_7cf53 4 = .ok (.iload_n 2, 1) := by decide +kernel
theorem dJ8_hugeLength_7cf53_5 : decode cJ8_hugeLength_7cf53 5 = .ok (.ifCond .ge 44, 3) := by decide +kernel
theorem dJ8_hugeLength_7cf53_8 : decode cJ8_hugeLength_7cf53 8 = .ok (.new 204, 3) := by decide +kernel
theorem dJ8_hugeLength_7cf53_11 : decode cJ8_hugeLength_7cf53 11 = .ok (.dup, 1) := by decide +kernel
theorem dJ8_hugeLength_7cf53_12 : decode cJ8_hugeLength_7cf53 12 = .ok (.new 89, 3) := by decide +kernel
theorem dJ8_hugeLength_7cf53_15 : decode cJ8_hugeLength_7cf53 15 = .ok (.dup, 1) := by decide +kernel
theorem dJ8_hugeLength_7cf53_16 : decode cJ8_hugeLength_7cf53 16 = .ok (.invokespecial 91, 3) := by decide +kernel
theorem dJ8_hugeLength_7cf53_19 : decode cJ8_hugeLength_7cf53 19 = .ok (.ldc 206, 2) := by decide +kernel
theorem dJ8_hugeLength_7cf53_21 : decode cJ8_hugeLength_7cf53 21 = .ok (.invokevirtual 94, 3) := by decide +kernel
theorem dJ8_hugeLength_7cf53_24 : decode cJ8_hugeLength_7cf53 24 = .ok (.iload_n 0, 1) := by decide +kernel
theorem dJ8_hugeLength_7cf53_25 : decode cJ8_hugeLength_7cf53 25 = .ok (.invokevirtual 98, 3) := by decide +kernel
theorem dJ8_hugeLength_7cf53_28 : decode cJ8_hugeLength_7cf53 28 = .ok (.ldc 208, 2) := by decide +kernel
theorem dJ8_hugeLength_7cf53_30 : decode cJ8_hugeLength_7cf53 30 = .ok (.invokevirtual 94, 3) := by decide +kernel
theorem dJ8_hugeLength_7cf53_33 : decode cJ8_hugeLength_7cf53 33 = .ok (.iload_n 1, 1) := by decide +kernel
theorem dJ8_hugeLength_7cf53_34 : decode cJ8_hugeLength_7cf53 34 = .ok (.invokevirtual 98, 3) := by decide +kernel
theorem dJ8_hugeLength_7cf53_37 : decode cJ8_hugeLength_7cf53 37 = .ok (.ldc 210, 2) := by decide +kernel
theorem dJ8_hugeLength_7cf53_39 : decode cJ8_hugeLength_7cf53 39 = .ok (.invokevirtual 94, 3) := by decide +kernel
theorem dJ8_hugeLength_7cf53_42 : decode cJ8_hugeLength_7cf53 42 = .ok (.invokevirtual 101, 3) := by decide +kernel
theorem dJ8_hugeLength_7cf53_45 : decode cJ8_hugeLength_7cf53 45 = .ok (.invokespecial 212, 3) := by decide +kernel
theorem dJ8_hugeLength_7cf53_48 : decode cJ8_hugeLength_7cf53 48 = .ok (.athrow, 1) := by decide +kernel
theorem dJ8_hugeLength_7cf53_49 : decode cJ8_hugeLength_7cf53 49 = .ok (.iload_n 2, 1) := by decide +kernel
theorem dJ8_hugeLength_7cf53_50 : decode cJ8_hugeLength_7cf53 50 = .ok (.ldc 200, 2) := by decide +kernel
theorem dJ8_hugeLength_7cf53_52 : decode cJ8_hugeLength_7cf53 52 = .ok (.if_icmp .gt 6, 3) := by decide +kernel
theorem dJ8_hugeLength_7cf53_55 : decode cJ8_hugeLength_7cf53 55 = .ok (.ldc 200, 2) := by decide +kernel
theorem dJ8_hugeLength_7cf53_57 : decode cJ8_hugeLength_7cf53 57 = .ok (.ireturn, 1) := by decide +kernel
theorem dJ8_hugeLength_7cf53_58 : decode cJ8_hugeLength_7cf53 58 = .ok (.iload_n 2, 1) := by decide +kernel
theorem dJ8_hugeLength_7cf53_59 : decode cJ8_hugeLength_7cf53 59 = .ok (.ireturn, 1) := by decide +kernel
theorem dJ3_checkIndex_8e157_0 : decode cJ3_checkIndex_8e157 0 = .ok (.iload_n 0, 1) := by decide +kernel
theorem dJ3_checkIndex_8e157_1 : decode cJ3_checkIndex_8e157 1 = .ok (.ifCond .lt 8, 3) := by decide +kernel
theorem dJ3_checkIndex_8e157_4 : decode cJ3_checkIndex_8e157 4 = .ok (.iload_n 0, 1) := by decide +kernel
theorem dJ3_checkIndex_8e157_5 : decode cJ3_checkIndex_8e157 5 = .ok (.iload_n 1, 1) := by decide +kernel
theorem dJ3_checkIndex_8e157_6 : decode cJ3_checkIndex_8e157 6 = .ok (.if_icmp .lt 10, 3) := by decide +kernel
theorem dJ3_checkIndex_8e157_9 : decode cJ3_checkIndex_8e157 9 = .ok (.aload_n 2, 1) := by decide +kernel
theorem dJ3_checkIndex_8e157_10 : decode cJ3_checkIndex_8e157 10 = .ok (.iload_n 0, 1) := by decide +kernel
theorem dJ3_checkIndex_8e157_11 : decode cJ3_checkIndex_8e157 11 = .ok (.iload_n 1, 1) := by decide +kernel
theorem dJ3_checkIndex_8e157_12 : decode cJ3_checkIndex_8e157 12 = .ok (.invokestatic 95, 3) := by decide +kernel
theorem dJ3_checkIndex_8e157_15 : decode cJ3_checkIndex_8e157 15 = .ok (.athrow, 1) := by decide +kernel
theorem dJ3_checkIndex_8e157_16 : decode cJ3_checkIndex_8e157 16 = .ok (.iload_n 0, 1) := by decide +kernel
theorem dJ3_checkIndex_8e157_17 : decode cJ3_checkIndex_8e157 17 = .ok (.ireturn, 1) := by decide +kernel
theorem dL_law_0 : decode cL_law 0 = .ok (.new 7, 3) := by decide +kernel
theorem dL_law_3 : decode cL_law 3 = .ok (.dup, 1) := by decide +kernel
theorem dL_law_4 : decode cL_law 4 = .ok (.invokespecial 9, 3) := by decide +kernel
theorem dL_law_7 : decode cL_law 7 = .ok (.astore_n 1, 1) := by decide +kernel
theorem dL_law_8 : decode cL_law 8 = .ok (.new 10, 3) := by decide +kernel
theorem dL_law_11 : decode cL_law 11 = .ok (.dup, 1) := by decide +kernel
theorem dL_law_12 : decode cL_law 12 = .ok (.invokespecial 12, 3) := by decide +kernel
theorem dL_law_15 : decode cL_law 15 = .ok (.astore_n 2, 1) := by decide +kernel
theorem dL_law_16 : decode cL_law 16 = .ok (.iconst 0, 1) := by decide +kernel
theorem dL_law_17 : decode cL_law 17 = .ok (.istore_n 3, 1) := by decide +kernel
theorem dL_law_18 : decode cL_law 18 = .ok (.iload_n 3, 1) := by decide +kernel
theorem dL_law_19 : decode cL_law 19 = .ok (.aload_n 0, 1) := by decide +kernel
theorem dL_law_20 : decode cL_law 20 = .ok (.arraylength, 1) := by decide +kernel
theorem dL_law_21 : decode cL_law 21 = .ok (.bipush 6, 2) := by decide +kernel
theorem dL_law_23 : decode cL_law 23 = .ok (.isub, 1) := by decide +kernel
end
section
theorem dL_law_24 : decode cL_law 24 = .ok (.if_icmp .gt 1102, 3) := by decide +kernel
theorem dL_law_27 : decode cL_law 27 = .ok (.aload_n 0, 1) := by decide +kernel
theorem dL_law_28 : decode cL_law 28 = .ok (.iload_n 3, 1) := by decide +kernel
theorem dL_law_29 : decode cL_law 29 = .ok (.iaload, 1) := by decide +kernel
theorem dL_law_30 : decode cL_law 30 = .ok (.bipush 31, 2) := by decide +kernel
theorem dL_law_32 : decode cL_law 32 = .ok (.iand, 1) := by decide +kernel
theorem dL_law_33 : decode cL_law 33 = .ok (.tableswitch 1087 0 29 #[135, 148, 211, 254, 267, 280, 323, 356, 415, 458, 481, 524, 567, 610, 653, 686, 719, 742, 755, 804, 827, 850, 883, 916, 959, 982, 1005, 1028, 1051, 1074], 135) := by decide +kernel
theorem dL_law_168 : decode cL_law 168 = .ok (.aload_n 1, 1) := by decide +kernel
theorem dL_law_169 : decode cL_law 169 = .ok (.invokevirtual 13, 3) := by decide +kernel
theorem dL_law_172 : decode cL_law 172 = .ok (.aload_n 2, 1) := by decide +kernel
theorem dL_law_173 : decode cL_law 173 = .ok (.invokevirtual 17, 3) := by decide +kernel
theorem dL_law_176 : decode cL_law 176 = .ok (.if_icmp .eq 944, 3) := by decide +kernel
theorem dL_law_179 : decode cL_law 179 = .ok (.iconst 0, 1) := by decide +kernel
theorem dL_law_180 : decode cL_law 180 = .ok (.ireturn, 1) := by decide +kernel
theorem dL_law_181 : decode cL_law 181 = .ok (.aload_n 1, 1) := by decide +kernel
theorem dL_law_182 : decode cL_law 182 = .ok (.aload_n 0, 1) := by decide +kernel
theorem dL_law_183 : decode cL_law 183 = .ok (.iload_n 3, 1) := by decide +kernel
theorem dL_law_184 : decode cL_law 184 = .ok (.iconst 1, 1) := by decide +kernel
theorem dL_law_185 : decode cL_law 185 = .ok (.iadd, 1) := by decide +kernel
theorem dL_law_186 : decode cL_law 186 = .ok (.iaload, 1) := by decide +kernel
theorem dL_law_187 : decode cL_law 187 = .ok (.aload_n 0, 1) := by decide +kernel
theorem dL_law_188 : decode cL_law 188 = .ok (.iload_n 3, 1) := by decide +kernel
theorem dL_law_189 : decode cL_law 189 = .ok (.iconst 2, 1) := by decide +kernel
theorem dL_law_190 : decode cL_law 190 = .ok (.iadd, 1) := by decide +kernel
theorem dL_law_191 : decode cL_law 191 = .ok (.iaload, 1) := by decide +kernel
theorem dL_law_192 : decode cL_law 192 = .ok (.aload_n 0, 1) := by decide +kernel
theorem dL_law_193 : decode cL_law 193 = .ok (.iload_n 3, 1) := by decide +kernel
theorem dL_law_194 : decode cL_law 194 = .ok (.iconst 3, 1) := by decide +kernel
theorem dL_law_195 : decode cL_law 195 = .ok (.iadd, 1) := by decide +kernel
theorem dL_law_196 : decode cL_law 196 = .ok (.iaload, 1) := by decide +kernel
theorem dL_law_197 : decode cL_law 197 = .ok (.aload_n 0, 1) := by decide +kernel
theorem dL_law_198 : decode cL_law 198 = .ok (.iload_n 3, 1) := by decide +kernel
theorem dL_law_199 : decode cL_law 199 = .ok (.iconst 4, 1) := by decide +kernel
theorem dL_law_200 : decode cL_law 200 = .ok (.iadd, 1) := by decide +kernel
theorem dL_law_201 : decode cL_law 201 = .ok (.iaload, 1) := by decide +kernel
theorem dL_law_202 : decode cL_law 202 = .ok (.aload_n 0, 1) := by decide +kernel
theorem dL_law_203 : decode cL_law 203 = .ok (.iload_n 3, 1) := by decide +kernel
theorem dL_law_204 : decode cL_law 204 = .ok (.iconst 5, 1) := by decide +kernel
theorem dL_law_205 : decode cL_law 205 = .ok (.iadd, 1) := by decide +kernel
theorem dL_law_206 : decode cL_law 206 = .ok (.iaload, 1) := by decide +kernel
theorem dL_law_207 : decode cL_law 207 = .ok (.invokevirtual 18, 3) := by decide +kernel
theorem dL_law_210 : decode cL_law 210 = .ok (.aload_n 2, 1) := by decide +kernel
theorem dL_law_211 : decode cL_law 211 = .ok (.aload_n 0, 1) := by decide +kernel
theorem dL_law_212 : decode cL_law 212 = .ok (.iload_n 3, 1) := by decide +kernel
theorem dL_law_213 : decode cL_law 213 = .ok (.iconst 1, 1) := by decide +kernel
theorem dL_law_214 : decode cL_law 214 = .ok (.iadd, 1) := by decide +kernel
theorem dL_law_215 : decode cL_law 215 = .ok (.iaload, 1) := by decide +kernel
theorem dL_law_216 : decode cL_law 216 = .ok (.aload_n 0, 1) := by decide +kernel
theorem dL_law_217 : decode cL_law 217 = .ok (.iload_n 3, 1) := by decide +kernel
theorem dL_law_218 : decode cL_law 218 = .ok (.iconst 2, 1) := by decide +kernel
theorem dL_law_219 : decode cL_law 219 = .ok (.iadd, 1) := by decide +kernel
theorem dL_law_220 : decode cL_law 220 = .ok (.iaload, 1) := by decide +kernel
theorem dL_law_221 : decode cL_law 221 = .ok (.aload_n 0, 1) := by decide +kernel
theorem dL_law_222 : decode cL_law 222 = .ok (.iload_n 3, 1) := by decide +kernel
theorem dL_law_223 : decode cL_law 223 = .ok (.iconst 3, 1) := by decide +kernel
theorem dL_law_224 : decode cL_law 224 = .ok (.iadd, 1) := by decide +kernel
theorem dL_law_225 : decode cL_law 225 = .ok (.iaload, 1) := by decide +kernel
theorem dL_law_226 : decode cL_law 226 = .ok (.aload_n 0, 1) := by decide +kernel
theorem dL_law_227 : decode cL_law 227 = .ok (.iload_n 3, 1) := by decide +kernel
theorem dL_law_228 : decode cL_law 228 = .ok (.iconst 4, 1) := by decide +kernel
theorem dL_law_229 : decode cL_law 229 = .ok (.iadd, 1) := by decide +kernel
theorem dL_law_230 : decode cL_law 230 = .ok (.iaload, 1) := by decide +kernel
theorem dL_law_231 : decode cL_law 231 = .ok (.aload_n 0, 1) := by decide +kernel
theorem dL_law_232 : decode cL_law 232 = .ok (.iload_n 3, 1) := by decide +kernel
theorem dL_law_233 : decode cL_law 233 = .ok (.iconst 5, 1) := by decide +kernel
theorem dL_law_234 : decode cL_law 234 = .ok (.iadd, 1) := by decide +kernel
theorem dL_law_235 : decode cL_law 235 = .ok (.iaload, 1) := by decide +kernel
theorem dL_law_236 : decode cL_law 236 = .ok (.invokevirtual 22, 3) := by decide +kernel
theorem dL_law_239 : decode cL_law 239 = .ok (.if_icmp .eq 881, 3) := by decide +kernel
theorem dL_law_242 : decode cL_law 242 = .ok (.iconst 0, 1) := by decide +kernel
theorem dL_law_243 : decode cL_law 243 = .ok (.ireturn, 1) := by decide +kernel
theorem dL_law_244 : decode cL_law 244 = .ok (.aload_n 1, 1) := by decide +kernel
theorem dL_law_245 : decode cL_law 245 = .ok (.aload_n 0, 1) := by decide +kernel
theorem dL_law_246 : decode cL_law 246 = .ok (.iload_n 3, 1) := by decide +kernel
theorem dL_law_247 : decode cL_law 247 = .ok (.iconst 1, 1) := by decide +kernel
theorem dL_law_248 : decode cL_law 248 = .ok (.iadd, 1) := by decide +kernel
theorem dL_law_249 : decode cL_law 249 = .ok (.iaload, 1) := by decide +kernel
theorem dL_law_250 : decode cL_law 250 = .ok (.aload_n 0, 1) := by decide +kernel
theorem dL_law_251 : decode cL_law 251 = .ok (.iload_n 3, 1) := by decide +kernel
theorem dL_law_252 : decode cL_law 252 = .ok (.iconst 2, 1) := by decide +kernel
theorem dL_law_253 : decode cL_law 253 = .ok (.iadd, 1) := by decide +kernel
theorem dL_law_254 : decode cL_law 254 = .ok (.iaload, 1) := by decide +kernel
theorem dL_law_255 : decode cL_law 255 = .ok (.aload_n 0, 1) := by decide +kernel
theorem dL_law_256 : decode cL_law 256 = .ok (.iload_n 3, 1) := by decide +kernel
theorem dL_law_257 : decode cL_law 257 = .ok (.iconst 3, 1) := by decide +kernel
theorem dL_law_258 : decode cL_law 258 = .ok (.iadd, 1) := by decide +kernel
theorem dL_law_259 : decode cL_law 259 = .ok (.iaload, 1) := by decide +kernel
theorem dL_law_260 : decode cL_law 260 = .ok (.invokevirtual 23, 3) := by decide +kernel
theorem dL_law_263 : decode cL_law 263 = .ok (.aload_n 2, 1) := by decide +kernel
theorem dL_law_264 : decode cL_law 264 = .ok (.aload_n 0, 1) := by decide +kernel
theorem dL_law_265 : decode cL_law 265 = .ok (.iload_n 3, 1) := by decide +kernel
theorem dL_law_266 : decode cL_law 266 = .ok (.iconst 1, 1) := by decide +kernel
theorem dL_law_267 : decode cL_law 267 = .ok (.iadd, 1) := by decide +kernel
theorem dL_law_268 : decode cL_law 268 = .ok (.iaload, 1) := by decide +kernel
theorem dL_law_269 : decode cL_law 269 = .ok (.aload_n 0, 1) := by decide +kernel
theorem dL_law_270 : decode cL_law 270 = .ok (.iload_n 3, 1) := by decide +kernel
theorem dL_law_271 : decode cL_law 271 = .ok (.iconst 2, 1) := by decide +kernel
theorem dL_law_272 : decode cL_law 272 = .ok (.iadd, 1) := by decide +kernel
theorem dL_law_273 : decode cL_law 273 = .ok (.iaload, 1) := by decide +kernel
theorem dL_law_274 : decode cL_law 274 = .ok (.aload_n 0, 1) := by decide +kernel
theorem dL_law_275 : decode cL_law 275 = .ok (.iload_n 3, 1) := by decide +kernel
theorem dL_law_276 : decode cL_law 276 = .ok (.iconst 3, 1) := by decide +kernel
theorem dL_law_277 : decode cL_law 277 = .ok (.iadd, 1) := by decide +kernel
theorem dL_law_278 : decode cL_law 278 = .ok (.iaload, 1) := by decide +kernel
theorem dL_law_279 : decode cL_law 279 = .ok (.invokevirtual 27, 3) := by decide +kernel
theorem dL_law_282 : decode cL_law 282 = .ok (.if_icmp .eq 838, 3) := by decide +kernel
theorem dL_law_285 : decode cL_law 285 = .ok (.iconst 0, 1) := by decide +kernel
theorem dL_law_286 : decode cL_law 286 = .ok (.ireturn, 1) := by decide +kernel
theorem dL_law_287 : decode cL_law 287 = .ok (.aload_n 1, 1) := by decide +kernel
theorem dL_law_288 : decode cL_law 288 = .ok (.invokevirtual 28, 3) := by decide +kernel
theorem dL_law_291 : decode cL_law 291 = .ok (.aload_n 2, 1) := by decide +kernel
theorem dL_law_292 : decode cL_law 292 = .ok (.invokevirtual 31, 3) := by decide +kernel
theorem dL_law_295 : decode cL_law 295 = .ok (.if_icmp .eq 825, 3) := by decide +kernel
theorem dL_law_298 : decode cL_law 298 = .ok (.iconst 0, 1) := by decide +kernel
theorem dL_law_299 : decode cL_law 299 = .ok (.ireturn, 1) := by decide +kernel
theorem dL_law_300 : decode cL_law 300 = .ok (.aload_n 1, 1) := by decide +kernel
theorem dL_law_301 : decode cL_law 301 = .ok (.invokevirtual 32, 3) := by decide +kernel
theorem dL_law_304 : decode cL_law 304 = .ok (.aload_n 2, 1) := by decide +kernel
theorem dL_law_305 : decode cL_law 305 = .ok (.invokevirtual 35, 3) := by decide +kernel
theorem dL_law_308 : decode cL_law 308 = .ok (.if_icmp .eq 812, 3) := by decide +kernel
theorem dL_law_311 : decode cL_law 311 = .ok (.iconst 0, 1) := by decide +kernel
theorem dL_law_312 : decode cL_law 312 = .ok (.ireturn, 1) := by decide +kernel
theorem dL_law_313 : decode cL_law 313 = .ok (.aload_n 1, 1) := by decide +kernel
theorem dL_law_314 : decode cL_law 314 = .ok (.aload_n 0, 1) := by decide +kernel
theorem dL_law_315 : decode cL_law 315 = .ok (.iload_n 3, 1) := by decide +kernel
theorem dL_law_316 : decode cL_law 316 = .ok (.iconst 1, 1) := by decide +kernel
theorem dL_law_317 : decode cL_law 317 = .ok (.iadd, 1) := by decide +kernel
theorem dL_law_318 : decode cL_law 318 = .ok (.iaload, 1) := by decide +kernel
theorem dL_law_319 : decode cL_law 319 = .ok (.aload_n 0, 1) := by decide +kernel
theorem dL_law_320 : decode cL_law 320 = .ok (.iload_n 3, 1) := by decide +kernel
theorem dL_law_321 : decode cL_law 321 = .ok (.iconst 2, 1) := by decide +kernel
theorem dL_law_322 : decode cL_law 322 = .ok (.iadd, 1) := by decide +kernel
theorem dL_law_323 : decode cL_law 323 = .ok (.iaload, 1) := by decide +kernel
theorem dL_law_324 : decode cL_law 324 = .ok (.aload_n 0, 1) := by decide +kernel
theorem dL_law_325 : decode cL_law 325 = .ok (.iload_n 3, 1) := by decide +kernel
theorem dL_law_326 : decode cL_law 326 = .ok (.iconst 3, 1) := by decide +kernel
theorem dL_law_327 : decode cL_law 327 = .ok (.iadd, 1) := by decide +kernel
theorem dL_law_328 : decode cL_law 328 = .ok (.iaload, 1) := by decide +kernel
theorem dL_law_329 : decode cL_law 329 = .ok (.invokevirtual 36, 3) := by decide +kernel
theorem dL_law_332 : decode cL_law 332 = .ok (.aload_n 2, 1) := by decide +kernel
theorem dL_law_333 : decode cL_law 333 = .ok (.aload_n 0, 1) := by decide +kernel
theorem dL_law_334 : decode cL_law 334 = .ok (.iload_n 3, 1) := by decide +kernel
theorem dL_law_335 : decode cL_law 335 = .ok (.iconst 1, 1) := by decide +kernel
theorem dL_law_336 : decode cL_law 336 = .ok (.iadd, 1) := by decide +kernel
theorem dL_law_337 : decode cL_law 337 = .ok (.iaload, 1) := by decide +kernel
theorem dL_law_338 : decode cL_law 338 = .ok (.aload_n 0, 1) := by decide +kernel
theorem dL_law_339 : decode cL_law 339 = .ok (.iload_n 3, 1) := by decide +kernel
theorem dL_law_340 : decode cL_law 340 = .ok (.iconst 2, 1) := by decide +kernel
theorem dL_law_341 : decode cL_law 341 = .ok (.iadd, 1) := by decide +kernel
theorem dL_law_342 : decode cL_law 342 = .ok (.iaload, 1) := by decide +kernel
theorem dL_law_343 : decode cL_law 343 = .ok (.aload_n 0, 1) := by decide +kernel
theorem dL_law_344 : decode cL_law 344 = .ok (.iload_n 3, 1) := by decide +kernel
theorem dL_law_345 : decode cL_law 345 = .ok (.iconst 3, 1) := by decide +kernel
theorem dL_law_346 : decode cL_law 346 = .ok (.iadd, 1) := by decide +kernel
theorem dL_law_347 : decode cL_law 347 = .ok (.iaload, 1) := by decide +kernel
theorem dL_law_348 : decode cL_law 348 = .ok (.invokevirtual 39, 3) := by decide +kernel
theorem dL_law_351 : decode cL_law 351 = .ok (.if_icmp .eq 769, 3) := by decide +kernel
theorem dL_law_354 : decode cL_law 354 = .ok (.iconst 0, 1) := by decide +kernel
theorem dL_law_355 : decode cL_law 355 = .ok (.ireturn, 1) := by decide +kernel
theorem dL_law_356 : decode cL_law 356 = .ok (.aload_n 1, 1) := by decide +kernel
theorem dL_law_357 : decode cL_law 357 = .ok (.aload_n 0, 1) := by decide +kernel
theorem dL_law_358 : decode cL_law 358 = .ok (.iload_n 3, 1) := by decide +kernel
theorem dL_law_359 : decode cL_law 359 = .ok (.iconst 1, 1) := by decide +kernel
theorem dL_law_360 : decode cL_law 360 = .ok (.iadd, 1) := by decide +kernel
theorem dL_law_361 : decode cL_law 361 = .ok (.iaload, 1) := by decide +kernel
theorem dL_law_362 : decode cL_law 362 = .ok (.aload_n 0, 1) := by decide +kernel
theorem dL_law_363 : decode cL_law 363 = .ok (.iload_n 3, 1) := by decide +kernel
theorem dL_law_364 : decode cL_law 364 = .ok (.iconst 2, 1) := by decide +kernel
theorem dL_law_365 : decode cL_law 365 = .ok (.iadd, 1) := by decide +kernel
theorem dL_law_366 : decode cL_law 366 = .ok (.iaload, 1) := by decide +kernel
theorem dL_law_367 : decode cL_law 367 = .ok (.invokevirtual 40, 3) := by decide +kernel
theorem dL_law_370 : decode cL_law 370 = .ok (.aload_n 2, 1) := by decide +kernel
theorem dL_law_371 : decode cL_law 371 = .ok (.aload_n 0, 1) := by decide +kernel
theorem dL_law_372 : decode cL_law 372 = .ok (.iload_n 3, 1) := by decide +kernel
theorem dL_law_373 : decode cL_law 373 = .ok (.iconst 1, 1) := by decide +kernel
theorem dL_law_374 : decode cL_law 374 = .ok (.iadd, 1) := by decide +kernel
theorem dL_law_375 : decode cL_law 375 = .ok (.iaload, 1) := by decide +kernel
theorem dL_law_376 : decode cL_law 376 = .ok (.aload_n 0, 1) := by decide +kernel
theorem dL_law_377 : decode cL_law 377 = .ok (.iload_n 3, 1) := by decide +kernel
theorem dL_law_378 : decode cL_law 378 = .ok (.iconst 2, 1) := by decide +kernel
theorem dL_law_379 : decode cL_law 379 = .ok (.iadd, 1) := by decide +kernel
theorem dL_law_380 : decode cL_law 380 = .ok (.iaload, 1) := by decide +kernel
theorem dL_law_381 : decode cL_law 381 = .ok (.invokevirtual 44, 3) := by decide +kernel
theorem dL_law_384 : decode cL_law 384 = .ok (.if_icmp .eq 736, 3) := by decide +kernel
theorem dL_law_387 : decode cL_law 387 = .ok (.iconst 0, 1) := by decide +kernel
theorem dL_law_388 : decode cL_law 388 = .ok (.ireturn, 1) := by decide +kernel
theorem dL_law_389 : decode cL_law 389 = .ok (.aload_n 1, 1) := by decide +kernel
theorem dL_law_390 : decode cL_law 390 = .ok (.aload_n 0, 1) := by decide +kernel
theorem dL_law_391 : decode cL_law 391 = .ok (.iload_n 3, 1) := by decide +kernel
theorem dL_law_392 : decode cL_law 392 = .ok (.iconst 1, 1) := by decide +kernel
theorem dL_law_393 : decode cL_law 393 = .ok (.iadd, 1) := by decide +kernel
theorem dL_law_394 : decode cL_law 394 = .ok (.iaload, 1) := by decide +kernel
theorem dL_law_395 : decode cL_law 395 = .ok (.aload_n 0, 1) := by decide +kernel
theorem dL_law_396 : decode cL_law 396 = .ok (.iload_n 3, 1) := by decide +kernel
theorem dL_law_397 : decode cL_law 397 = .ok (.iconst 2, 1) := by decide +kernel
theorem dL_law_398 : decode cL_law 398 = .ok (.iadd, 1) := by decide +kernel
theorem dL_law_399 : decode cL_law 399 = .ok (.iaload, 1) := by decide +kernel
theorem dL_law_400 : decode cL_law 400 = .ok (.aload_n 0, 1) := by decide +kernel
theorem dL_law_401 : decode cL_law 401 = .ok (.iload_n 3, 1) := by decide +kernel
theorem dL_law_402 : decode cL_law 402 = .ok (.iconst 3, 1) := by decide +kernel
theorem dL_law_403 : decode cL_law 403 = .ok (.iadd, 1) := by decide +kernel
theorem dL_law_404 : decode cL_law 404 = .ok (.iaload, 1) := by decide +kernel
theorem dL_law_405 : decode cL_law 405 = .ok (.ifCond .eq 7, 3) := by decide +kernel
theorem dL_law_408 : decode cL_law 408 = .ok (.iconst 1, 1) := by decide +kernel
theorem dL_law_409 : decode cL_law 409 = .ok (.goto 4, 3) := by decide +kernel
theorem dL_law_412 : decode cL_law 412 = .ok (.iconst 0, 1) := by decide +kernel
theorem dL_law_413 : decode cL_law 413 = .ok (.invokevirtual 45, 3) := by decide +kernel
theorem dL_law_416 : decode cL_law 416 = .ok (.aload_n 2, 1) := by decide +kernel
theorem dL_law_417 : decode cL_law 417 = .ok (.aload_n 0, 1) := by decide +kernel
theorem dL_law_418 : decode cL_law 418 = .ok (.iload_n 3, 1) := by decide +kernel
theorem dL_law_419 : decode cL_law 419 = .ok (.iconst 1, 1) := by decide +kernel
theorem dL_law_420 : decode cL_law 420 = .ok (.iadd, 1) := by decide +kernel
theorem dL_law_421 : decode cL_law 421 = .ok (.iaload, 1) := by decide +kernel
theorem dL_law_422 : decode cL_law 422 = .ok (.aload_n 0, 1) := by decide +kernel
theorem dL_law_423 : decode cL_law 423 = .ok (.iload_n 3, 1) := by decide +kernel
theorem dL_law_424 : decode cL_law 424 = .ok (.iconst 2, 1) := by decide +kernel
theorem dL_law_425 : decode cL_law 425 = .ok (.iadd, 1) := by decide +kernel
theorem dL_law_426 : decode cL_law 426 = .ok (.iaload, 1) := by decide +kernel
theorem dL_law_427 : decode cL_law 427 = .ok (.aload_n 0, 1) := by decide +kernel
theorem dL_law_428 : decode cL_law 428 = .ok (.iload_n 3, 1) := by decide +kernel
theorem dL_law_429 : decode cL_law 429 = .ok (.iconst 3, 1) := by decide +kernel
theorem dL_law_430 : decode cL_law 430 = .ok (.iadd, 1) := by decide +kernel
theorem dL_law_431 : decode cL_law 431 = .ok (.iaload, 1) := by decide +kernel
theorem dL_law_432 : decode cL_law 432 = .ok (.ifCond .eq 7, 3) := by decide +kernel
theorem dL_law_435 : decode cL_law 435 = .ok (.iconst 1, 1) := by decide +kernel
theorem dL_law_436 : decode cL_law 436 = .ok (.goto 4, 3) := by decide +kernel
theorem dL_law_439 : decode cL_law 439 = .ok (.iconst 0, 1) := by decide +kernel
theorem dL_law_440 : decode cL_law 440 = .ok (.invokevirtual 49, 3) := by decide +kernel
theorem dL_law_443 : decode cL_law 443 = .ok (.if_icmp .eq 677, 3) := by decide +kernel
theorem dL_law_446 : decode cL_law 446 = .ok (.iconst 0, 1) := by decide +kernel
theorem dL_law_447 : decode cL_law 447 = .ok (.ireturn, 1) := by decide +kernel
theorem dL_law_448 : decode cL_law 448 = .ok (.aload_n 1, 1) := by decide +kernel
theorem dL_law_449 : decode cL_law 449 = .ok (.aload_n 0, 1) := by decide +kernel
theorem dL_law_450 : decode cL_law 450 = .ok (.iload_n 3, 1) := by decide +kernel
theorem dL_law_451 : decode cL_law 451 = .ok (.iconst 1, 1) := by decide +kernel
theorem dL_law_452 : decode cL_law 452 = .ok (.iadd, 1) := by decide +kernel
theorem dL_law_453 : decode cL_law 453 = .ok (.iaload, 1) := by decide +kernel
theorem dL_law_454 : decode cL_law 454 = .ok (.aload_n 0, 1) := by decide +kernel
theorem dL_law_455 : decode cL_law 455 = .ok (.iload_n 3, 1) := by decide +kernel
theorem dL_law_456 : decode cL_law 456 = .ok (.iconst 2, 1) := by decide +kernel
theorem dL_law_457 : decode cL_law 457 = .ok (.iadd, 1) := by decide +kernel
theorem dL_law_458 : decode cL_law 458 = .ok (.iaload, 1) := by decide +kernel
theorem dL_law_459 : decode cL_law 459 = .ok (.aload_n 0, 1) := by decide +kernel
theorem dL_law_460 : decode cL_law 460 = .ok (.iload_n 3, 1) := by decide +kernel
theorem dL_law_461 : decode cL_law 461 = .ok (.iconst 3, 1) := by decide +kernel
theorem dL_law_462 : decode cL_law 462 = .ok (.iadd, 1) := by decide +kernel
theorem dL_law_463 : decode cL_law 463 = .ok (.iaload, 1) := by decide +kernel
theorem dL_law_464 : decode cL_law 464 = .ok (.invokevirtual 50, 3) := by decide +kernel
theorem dL_law_467 : decode cL_law 467 = .ok (.aload_n 2, 1) := by decide +kernel
theorem dL_law_468 : decode cL_law 468 = .ok (.aload_n 0, 1) := by decide +kernel
theorem dL_law_469 : decode cL_law 469 = .ok (.iload_n 3, 1) := by decide +kernel
theorem dL_law_470 : decode cL_law 470 = .ok (.iconst 1, 1) := by decide +kernel
theorem dL_law_471 : decode cL_law 471 = .ok (.iadd, 1) := by decide +kernel
theorem dL_law_472 : decode cL_law 472 = .ok (.iaload, 1) := by decide +kernel
theorem dL_law_473 : decode cL_law 473 = .ok (.aload_n 0, 1) := by decide +kernel
theorem dL_law_474 : decode cL_law 474 = .ok (.iload_n 3, 1) := by decide +kernel
theorem dL_law_475 : decode cL_law 475 = .ok (.iconst 2, 1) := by decide +kernel
theorem dL_law_476 : decode cL_law 476 = .ok (.iadd, 1) := by decide +kernel
theorem dL_law_477 : decode cL_law 477 = .ok (.iaload, 1) := by decide +kernel
theorem dL_law_478 : decode cL_law 478 = .ok (.aload_n 0, 1) := by decide +kernel
theorem dL_law_479 : decode cL_law 479 = .ok (.iload_n 3, 1) := by decide +kernel
theorem dL_law_480 : decode cL_law 480 = .ok (.iconst 3, 1) := by decide +kernel
theorem dL_law_481 : decode cL_law 481 = .ok (.iadd, 1) := by decide +kernel
theorem dL_law_482 : decode cL_law 482 = .ok (.iaload, 1) := by decide +kernel
theorem dL_law_483 : decode cL_law 483 = .ok (.invokevirtual 53, 3) := by decide +kernel
theorem dL_law_486 : decode cL_law 486 = .ok (.if_icmp .eq 634, 3) := by decide +kernel
theorem dL_law_489 : decode cL_law 489 = .ok (.iconst 0, 1) := by decide +kernel
theorem dL_law_490 : decode cL_law 490 = .ok (.ireturn, 1) := by decide +kernel
theorem dL_law_491 : decode cL_law 491 = .ok (.aload_n 1, 1) := by decide +kernel
theorem dL_law_492 : decode cL_law 492 = .ok (.aload_n 0, 1) := by decide +kernel
theorem dL_law_493 : decode cL_law 493 = .ok (.iload_n 3, 1) := by decide +kernel
theorem dL_law_494 : decode cL_law 494 = .ok (.iconst 1, 1) := by decide +kernel
theorem dL_law_495 : decode cL_law 495 = .ok (.iadd, 1) := by decide +kernel
theorem dL_law_496 : decode cL_law 496 = .ok (.iaload, 1) := by decide +kernel
theorem dL_law_497 : decode cL_law 497 = .ok (.invokevirtual 54, 3) := by decide +kernel
theorem dL_law_500 : decode cL_law 500 = .ok (.aload_n 2, 1) := by decide +kernel
theorem dL_law_501 : decode cL_law 501 = .ok (.aload_n 0, 1) := by decide +kernel
theorem dL_law_502 : decode cL_law 502 = .ok (.iload_n 3, 1) := by decide +kernel
theorem dL_law_503 : decode cL_law 503 = .ok (.iconst 1, 1) := by decide +kernel
theorem dL_law_504 : decode cL_law 504 = .ok (.iadd, 1) := by decide +kernel
theorem dL_law_505 : decode cL_law 505 = .ok (.iaload, 1) := by decide +kernel
theorem dL_law_506 : decode cL_law 506 = .ok (.invokevirtual 58, 3) := by decide +kernel
theorem dL_law_509 : decode cL_law 509 = .ok (.if_icmp .eq 611, 3) := by decide +kernel
theorem dL_law_512 : decode cL_law 512 = .ok (.iconst 0, 1) := by decide +kernel
theorem dL_law_513 : decode cL_law 513 = .ok (.ireturn, 1) := by decide +kernel
theorem dL_law_514 : decode cL_law 514 = .ok (.aload_n 1, 1) := by decide +kernel
theorem dL_law_515 : decode cL_law 515 = .ok (.aload_n 0, 1) := by decide +kernel
theorem dL_law_516 : decode cL_law 516 = .ok (.iload_n 3, 1) := by decide +kernel
theorem dL_law_517 : decode cL_law 517 = .ok (.iconst 1, 1) := by decide +kernel
theorem dL_law_518 : decode cL_law 518 = .ok (.iadd, 1) := by decide +kernel
theorem dL_law_519 : decode cL_law 519 = .ok (.iaload, 1) := by decide +kernel
theorem dL_law_520 : decode cL_law 520 = .ok (.aload_n 0, 1) := by decide +kernel
theorem dL_law_521 : decode cL_law 521 = .ok (.iload_n 3, 1) := by decide +kernel
theorem dL_law_522 : decode cL_law 522 = .ok (.iconst 2, 1) := by decide +kernel
theorem dL_law_523 : decode cL_law 523 = .ok (.iadd, 1) := by decide +kernel
theorem dL_law_524 : decode cL_law 524 = .ok (.iaload, 1) := by decide +kernel
theorem dL_law_525 : decode cL_law 525 = .ok (.aload_n 0, 1) := by decide +kernel
theorem dL_law_526 : decode cL_law 526 = .ok (.iload_n 3, 1) := by decide +kernel
theorem dL_law_527 : decode cL_law 527 = .ok (.iconst 3, 1) := by decide +kernel
theorem dL_law_528 : decode cL_law 528 = .ok (.iadd, 1) := by decide +kernel
theorem dL_law_529 : decode cL_law 529 = .ok (.iaload, 1) := by decide +kernel
theorem dL_law_530 : decode cL_law 530 = .ok (.invokevirtual 59, 3) := by decide +kernel
theorem dL_law_533 : decode cL_law 533 = .ok (.aload_n 2, 1) := by decide +kernel
theorem dL_law_534 : decode cL_law 534 = .ok (.aload_n 0, 1) := by decide +kernel
theorem dL_law_535 : decode cL_law 535 = .ok (.iload_n 3, 1) := by decide +kernel
theorem dL_law_536 : decode cL_law 536 = .ok (.iconst 1, 1) := by decide +kernel
theorem dL_law_537 : decode cL_law 537 = .ok (.iadd, 1) := by decide +kernel
theorem dL_law_538 : decode cL_law 538 = .ok (.iaload, 1) := by decide +kernel
theorem dL_law_539 : decode cL_law 539 = .ok (.aload_n 0, 1) := by decide +kernel
theorem dL_law_540 : decode cL_law 540 = .ok (.iload_n 3, 1) := by decide +kernel
theorem dL_law_541 : decode cL_law 541 = .ok (.iconst 2, 1) := by decide +kernel
theorem dL_law_542 : decode cL_law 542 = .ok (.iadd, 1) := by decide +kernel
theorem dL_law_543 : decode cL_law 543 = .ok (.iaload, 1) := by decide +kernel
theorem dL_law_544 : decode cL_law 544 = .ok (.aload_n 0, 1) := by decide +kernel
theorem dL_law_545 : decode cL_law 545 = .ok (.iload_n 3, 1) := by decide +kernel
theorem dL_law_546 : decode cL_law 546 = .ok (.iconst 3, 1) := by decide +kernel
theorem dL_law_547 : decode cL_law 547 = .ok (.iadd, 1) := by decide +kernel
theorem dL_law_548 : decode cL_law 548 = .ok (.iaload, 1) := by decide +kernel
theorem dL_law_549 : decode cL_law 549 = .ok (.invokevirtual 62, 3) := by decide +kernel
theorem dL_law_552 : decode cL_law 552 = .ok (.if_icmp .eq 568, 3) := by decide +kernel
theorem dL_law_555 : decode cL_law 555 = .ok (.iconst 0, 1) := by decide +kernel
theorem dL_law_556 : decode cL_law 556 = .ok (.ireturn, 1) := by decide +kernel
theorem dL_law_557 : decode cL_law 557 = .ok (.aload_n 1, 1) := by decide +kernel
theorem dL_law_558 : decode cL_law 558 = .ok (.aload_n 0, 1) := by decide +kernel
theorem dL_law_559 : decode cL_law 559 = .ok (.iload_n 3, 1) := by decide +kernel
theorem dL_law_560 : decode cL_law 560 = .ok (.iconst 1, 1) := by decide +kernel
theorem dL_law_561 : decode cL_law 561 = .ok (.iadd, 1) := by decide +kernel
theorem dL_law_562 : decode cL_law 562 = .ok (.iaload, 1) := by decide +kernel
theorem dL_law_563 : decode cL_law 563 = .ok (.aload_n 0, 1) := by decide +kernel
theorem dL_law_564 : decode cL_law 564 = .ok (.iload_n 3, 1) := by decide +kernel
theorem dL_law_565 : decode cL_law 565 = .ok (.iconst 2, 1) := by decide +kernel
theorem dL_law_566 : decode cL_law 566 = .ok (.iadd, 1) := by decide +kernel
theorem dL_law_567 : decode cL_law 567 = .ok (.iaload, 1) := by decide +kernel
theorem dL_law_568 : decode cL_law 568 = .ok (.aload_n 0, 1) := by decide +kernel
theorem dL_law_569 : decode cL_law 569 = .ok (.iload_n 3, 1) := by decide +kernel
theorem dL_law_570 : decode cL_law 570 = .ok (.iconst 3, 1) := by decide +kernel
theorem dL_law_571 : decode cL_law 571 = .ok (.iadd, 1) := by decide +kernel
theorem dL_law_572 : decode cL_law 572 = .ok (.iaload, 1) := by decide +kernel
theorem dL_law_573 : decode cL_law 573 = .ok (.invokevirtual 63, 3) := by decide +kernel
theorem dL_law_576 : decode cL_law 576 = .ok (.aload_n 2, 1) := by decide +kernel
theorem dL_law_577 : decode cL_law 577 = .ok (.aload_n 0, 1) := by decide +kernel
theorem dL_law_578 : decode cL_law 578 = .ok (.iload_n 3, 1) := by decide +kernel
theorem dL_law_579 : decode cL_law 579 = .ok (.iconst 1, 1) := by decide +kernel
theorem dL_law_580 : decode cL_law 580 = .ok (.iadd, 1) := by decide +kernel
theorem dL_law_581 : decode cL_law 581 = .ok (.iaload, 1) := by decide +kernel
theorem dL_law_582 : decode cL_law 582 = .ok (.aload_n 0, 1) := by decide +kernel
theorem dL_law_583 : decode cL_law 583 = .ok (.iload_n 3, 1) := by decide +kernel
theorem dL_law_584 : decode cL_law 584 = .ok (.iconst 2, 1) := by decide +kernel
theorem dL_law_585 : decode cL_law 585 = .ok (.iadd, 1) := by decide +kernel
theorem dL_law_586 : decode cL_law 586 = .ok (.iaload, 1) := by decide +kernel
theorem dL_law_587 : decode cL_law 587 = .ok (.aload_n 0, 1) := by decide +kernel
theorem dL_law_588 : decode cL_law 588 = .ok (.iload_n 3, 1) := by decide +kernel
theorem dL_law_589 : decode cL_law 589 = .ok (.iconst 3, 1) := by decide +kernel
theorem dL_law_590 : decode cL_law 590 = .ok (.iadd, 1) := by decide +kernel
theorem dL_law_591 : decode cL_law 591 = .ok (.iaload, 1) := by decide +kernel
theorem dL_law_592 : decode cL_law 592 = .ok (.invokevirtual 66, 3) := by decide +kernel
theorem dL_law_595 : decode cL_law 595 = .ok (.if_icmp .eq 525, 3) := by decide +kernel
theorem dL_law_598 : decode cL_law 598 = .ok (.iconst 0, 1) := by decide +kernel
theorem dL_law_599 : decode cL_law 599 = .ok (.ireturn, 1) := by decide +kernel
theorem dL_law_600 : decode cL_law 600 = .ok (.aload_n 1, 1) := by decide +kernel
theorem dL_law_601 : decode cL_law 601 = .ok (.aload_n 0, 1) := by decide +kernel
theorem dL_law_602 : decode cL_law 602 = .ok (.iload_n 3, 1) := by decide +kernel
theorem dL_law_603 : decode cL_law 603 = .ok (.iconst 1, 1) := by decide +kernel
theorem dL_law_604 : decode cL_law 604 = .ok (.iadd, 1) := by decide +kernel
theorem dL_law_605 : decode cL_law 605 = .ok (.iaload, 1) := by decide +kernel
theorem dL_law_606 : decode cL_law 606 = .ok (.aload_n 0, 1) := by decide +kernel
theorem dL_law_607 : decode cL_law 607 = .ok (.iload_n 3, 1) := by decide +kernel
theorem dL_law_608 : decode cL_law 608 = .ok (.iconst 2, 1) := by decide +kernel
theorem dL_law_609 : decode cL_law 609 = .ok (.iadd, 1) := by decide +kernel
theorem dL_law_610 : decode cL_law 610 = .ok (.iaload, 1) := by decide +kernel
theorem dL_law_611 : decode cL_law 611 = .ok (.aload_n 0, 1) := by decide +kernel
theorem dL_law_612 : decode cL_law 612 = .ok (.iload_n 3, 1) := by decide +kernel
theorem dL_law_613 : decode cL_law 613 = .ok (.iconst 3, 1) := by decide +kernel
theorem dL_law_614 : decode cL_law 614 = .ok (.iadd, 1) := by decide +kernel
theorem dL_law_615 : decode cL_law 615 = .ok (.iaload, 1) := by decide +kernel
theorem dL_law_616 : decode cL_law 616 = .ok (.invokevirtual 67, 3) := by decide +kernel
theorem dL_law_619 : decode cL_law 619 = .ok (.aload_n 2, 1) := by decide +kernel
theorem dL_law_620 : decode cL_law 620 = .ok (.aload_n 0, 1) := by decide +kernel
theorem dL_law_621 : decode cL_law 621 = .ok (.iload_n 3, 1) := by decide +kernel
theorem dL_law_622 : decode cL_law 622 = .ok (.iconst 1, 1) := by decide +kernel
theorem dL_law_623 : decode cL_law 623 = .ok (.iadd, 1) := by decide +kernel
theorem dL_law_624 : decode cL_law 624 = .ok (.iaload, 1) := by decide +kernel
theorem dL_law_625 : decode cL_law 625 = .ok (.aload_n 0, 1) := by decide +kernel
theorem dL_law_626 : decode cL_law 626 = .ok (.iload_n 3, 1) := by decide +kernel
theorem dL_law_627 : decode cL_law 627 = .ok (.iconst 2, 1) := by decide +kernel
theorem dL_law_628 : decode cL_law 628 = .ok (.iadd, 1) := by decide +kernel
theorem dL_law_629 : decode cL_law 629 = .ok (.iaload, 1) := by decide +kernel
theorem dL_law_630 : decode cL_law 630 = .ok (.aload_n 0, 1) := by decide +kernel
theorem dL_law_631 : decode cL_law 631 = .ok (.iload_n 3, 1) := by decide +kernel
theorem dL_law_632 : decode cL_law 632 = .ok (.iconst 3, 1) := by decide +kernel
theorem dL_law_633 : decode cL_law 633 = .ok (.iadd, 1) := by decide +kernel
theorem dL_law_634 : decode cL_law 634 = .ok (.iaload, 1) := by decide +kernel
theorem dL_law_635 : decode cL_law 635 = .ok (.invokevirtual 70, 3) := by decide +kernel
theorem dL_law_638 : decode cL_law 638 = .ok (.if_icmp .eq 482, 3) := by decide +kernel
theorem dL_law_641 : decode cL_law 641 = .ok (.iconst 0, 1) := by decide +kernel
theorem dL_law_642 : decode cL_law 642 = .ok (.ireturn, 1) := by decide +kernel
theorem dL_law_643 : decode cL_law 643 = .ok (.aload_n 1, 1) := by decide +kernel
theorem dL_law_644 : decode cL_law 644 = .ok (.aload_n 0, 1) := by decide +kernel
theorem dL_law_645 : decode cL_law 645 = .ok (.iload_n 3, 1) := by decide +kernel
theorem dL_law_646 : decode cL_law 646 = .ok (.iconst 1, 1) := by decide +kernel
theorem dL_law_647 : decode cL_law 647 = .ok (.iadd, 1) := by decide +kernel
theorem dL_law_648 : decode cL_law 648 = .ok (.iaload, 1) := by decide +kernel
theorem dL_law_649 : decode cL_law 649 = .ok (.aload_n 0, 1) := by decide +kernel
theorem dL_law_650 : decode cL_law 650 = .ok (.iload_n 3, 1) := by decide +kernel
theorem dL_law_651 : decode cL_law 651 = .ok (.iconst 2, 1) := by decide +kernel
theorem dL_law_652 : decode cL_law 652 = .ok (.iadd, 1) := by decide +kernel
theorem dL_law_653 : decode cL_law 653 = .ok (.iaload, 1) := by decide +kernel
theorem dL_law_654 : decode cL_law 654 = .ok (.aload_n 0, 1) := by decide +kernel
theorem dL_law_655 : decode cL_law 655 = .ok (.iload_n 3, 1) := by decide +kernel
theorem dL_law_656 : decode cL_law 656 = .ok (.iconst 3, 1) := by decide +kernel
theorem dL_law_657 : decode cL_law 657 = .ok (.iadd, 1) := by decide +kernel
theorem dL_law_658 : decode cL_law 658 = .ok (.iaload, 1) := by decide +kernel
theorem dL_law_659 : decode cL_law 659 = .ok (.invokevirtual 71, 3) := by decide +kernel
theorem dL_law_662 : decode cL_law 662 = .ok (.aload_n 2, 1) := by decide +kernel
theorem dL_law_663 : decode cL_law 663 = .ok (.aload_n 0, 1) := by decide +kernel
theorem dL_law_664 : decode cL_law 664 = .ok (.iload_n 3, 1) := by decide +kernel
theorem dL_law_665 : decode cL_law 665 = .ok (.iconst 1, 1) := by decide +kernel
theorem dL_law_666 : decode cL_law 666 = .ok (.iadd, 1) := by decide +kernel
theorem dL_law_667 : decode cL_law 667 = .ok (.iaload, 1) := by decide +kernel
theorem dL_law_668 : decode cL_law 668 = .ok (.aload_n 0, 1) := by decide +kernel
theorem dL_law_669 : decode cL_law 669 = .ok (.iload_n 3, 1) := by decide +kernel
theorem dL_law_670 : decode cL_law 670 = .ok (.iconst 2, 1) := by decide +kernel
theorem dL_law_671 : decode cL_law 671 = .ok (.iadd, 1) := by decide +kernel
theorem dL_law_672 : decode cL_law 672 = .ok (.iaload, 1) := by decide +kernel
theorem dL_law_673 : decode cL_law 673 = .ok (.aload_n 0, 1) := by decide +kernel
theorem dL_law_674 : decode cL_law 674 = .ok (.iload_n 3, 1) := by decide +kernel
theorem dL_law_675 : decode cL_law 675 = .ok (.iconst 3, 1) := by decide +kernel
theorem dL_law_676 : decode cL_law 676 = .ok (.iadd, 1) := by decide +kernel
theorem dL_law_677 : decode cL_law 677 = .ok (.iaload, 1) := by decide +kernel
theorem dL_law_678 : decode cL_law 678 = .ok (.invokevirtual 74, 3) := by decide +kernel
theorem dL_law_681 : decode cL_law 681 = .ok (.if_icmp .eq 439, 3) := by decide +kernel
theorem dL_law_684 : decode cL_law 684 = .ok (.iconst 0, 1) := by decide +kernel
theorem dL_law_685 : decode cL_law 685 = .ok (.ireturn, 1) := by decide +kernel
theorem dL_law_686 : decode cL_law 686 = .ok (.aload_n 1, 1) := by decide +kernel
theorem dL_law_687 : decode cL_law 687 = .ok (.aload_n 0, 1) := by decide +kernel
theorem dL_law_688 : decode cL_law 688 = .ok (.iload_n 3, 1) := by decide +kernel
theorem dL_law_689 : decode cL_law 689 = .ok (.iconst 1, 1) := by decide +kernel
theorem dL_law_690 : decode cL_law 690 = .ok (.iadd, 1) := by decide +kernel
theorem dL_law_691 : decode cL_law 691 = .ok (.iaload, 1) := by decide +kernel
theorem dL_law_692 : decode cL_law 692 = .ok (.aload_n 0, 1) := by decide +kernel
theorem dL_law_693 : decode cL_law 693 = .ok (.iload_n 3, 1) := by decide +kernel
theorem dL_law_694 : decode cL_law 694 = .ok (.iconst 2, 1) := by decide +kernel
theorem dL_law_695 : decode cL_law 695 = .ok (.iadd, 1) := by decide +kernel
theorem dL_law_696 : decode cL_law 696 = .ok (.iaload, 1) := by decide +kernel
theorem dL_law_697 : decode cL_law 697 = .ok (.invokevirtual 75, 3) := by decide +kernel
theorem dL_law_700 : decode cL_law 700 = .ok (.aload_n 2, 1) := by decide +kernel
theorem dL_law_701 : decode cL_law 701 = .ok (.aload_n 0, 1) := by decide +kernel
theorem dL_law_702 : decode cL_law 702 = .ok (.iload_n 3, 1) := by decide +kernel
theorem dL_law_703 : decode cL_law 703 = .ok (.iconst 1, 1) := by decide +kernel
theorem dL_law_704 : decode cL_law 704 = .ok (.iadd, 1) := by decide +kernel
theorem dL_law_705 : decode cL_law 705 = .ok (.iaload, 1) := by decide +kernel
theorem dL_law_706 : decode cL_law 706 = .ok (.aload_n 0, 1) := by decide +kernel
theorem dL_law_707 : decode cL_law 707 = .ok (.iload_n 3, 1) := by decide +kernel
theorem dL_law_708 : decode cL_law 708 = .ok (.iconst 2, 1) := by decide +kernel
theorem dL_law_709 : decode cL_law 709 = .ok (.iadd, 1) := by decide +kernel
theorem dL_law_710 : decode cL_law 710 = .ok (.iaload, 1) := by decide +kernel
theorem dL_law_711 : decode cL_law 711 = .ok (.invokevirtual 78, 3) := by decide +kernel
theorem dL_law_714 : decode cL_law 714 = .ok (.if_icmp .eq 406, 3) := by decide +kernel
theorem dL_law_717 : decode cL_law 717 = .ok (.iconst 0, 1) := by decide +kernel
theorem dL_law_718 : decode cL_law 718 = .ok (.ireturn, 1) := by decide +kernel
theorem dL_law_719 : decode cL_law 719 = .ok (.aload_n 1, 1) := by decide +kernel
theorem dL_law_720 : decode cL_law 720 = .ok (.aload_n 0, 1) := by decide +kernel
theorem dL_law_721 : decode cL_law 721 = .ok (.iload_n 3, 1) := by decide +kernel
theorem dL_law_722 : decode cL_law 722 = .ok (.iconst 1, 1) := by decide +kernel
theorem dL_law_723 : decode cL_law 723 = .ok (.iadd, 1) := by decide +kernel
theorem dL_law_724 : decode cL_law 724 = .ok (.iaload, 1) := by decide +kernel
theorem dL_law_725 : decode cL_law 725 = .ok (.aload_n 0, 1) := by decide +kernel
theorem dL_law_726 : decode cL_law 726 = .ok (.iload_n 3, 1) := by decide +kernel
theorem dL_law_727 : decode cL_law 727 = .ok (.iconst 2, 1) := by decide +kernel
theorem dL_law_728 : decode cL_law 728 = .ok (.iadd, 1) := by decide +kernel
theorem dL_law_729 : decode cL_law 729 = .ok (.iaload, 1) := by decide +kernel
theorem dL_law_730 : decode cL_law 730 = .ok (.invokevirtual 79, 3) := by decide +kernel
theorem dL_law_733 : decode cL_law 733 = .ok (.aload_n 2, 1) := by decide +kernel
theorem dL_law_734 : decode cL_law 734 = .ok (.aload_n 0, 1) := by decide +kernel
theorem dL_law_735 : decode cL_law 735 = .ok (.iload_n 3, 1) := by decide +kernel
theorem dL_law_736 : decode cL_law 736 = .ok (.iconst 1, 1) := by decide +kernel
theorem dL_law_737 : decode cL_law 737 = .ok (.iadd, 1) := by decide +kernel
theorem dL_law_738 : decode cL_law 738 = .ok (.iaload, 1) := by decide +kernel
theorem dL_law_739 : decode cL_law 739 = .ok (.aload_n 0, 1) := by decide +kernel
theorem dL_law_740 : decode cL_law 740 = .ok (.iload_n 3, 1) := by decide +kernel
theorem dL_law_741 : decode cL_law 741 = .ok (.iconst 2, 1) := by decide +kernel
theorem dL_law_742 : decode cL_law 742 = .ok (.iadd, 1) := by decide +kernel
theorem dL_law_743 : decode cL_law 743 = .ok (.iaload, 1) := by decide +kernel
theorem dL_law_744 : decode cL_law 744 = .ok (.invokevirtual 82, 3) := by decide +kernel
theorem dL_law_747 : decode cL_law 747 = .ok (.if_icmp .eq 373, 3) := by decide +kernel
theorem dL_law_750 : decode cL_law 750 = .ok (.iconst 0, 1) := by decide +kernel
theorem dL_law_751 : decode cL_law 751 = .ok (.ireturn, 1) := by decide +kernel
theorem dL_law_752 : decode cL_law 752 = .ok (.aload_n 1, 1) := by decide +kernel
theorem dL_law_753 : decode cL_law 753 = .ok (.aload_n 0, 1) := by decide +kernel
theorem dL_law_754 : decode cL_law 754 = .ok (.iload_n 3, 1) := by decide +kernel
theorem dL_law_755 : decode cL_law 755 = .ok (.iconst 1, 1) := by decide +kernel
theorem dL_law_756 : decode cL_law 756 = .ok (.iadd, 1) := by decide +kernel
theorem dL_law_757 : decode cL_law 757 = .ok (.iaload, 1) := by decide +kernel
theorem dL_law_758 : decode cL_law 758 = .ok (.invokevirtual 83, 3) := by decide +kernel
theorem dL_law_761 : decode cL_law 761 = .ok (.aload_n 2, 1) := by decide +kernel
theorem dL_law_762 : decode cL_law 762 = .ok (.aload_n 0, 1) := by decide +kernel
theorem dL_law_763 : decode cL_law 763 = .ok (.iload_n 3, 1) := by decide +kernel
theorem dL_law_764 : decode cL_law 764 = .ok (.iconst 1, 1) := by decide +kernel
theorem dL_law_765 : decode cL_law 765 = .ok (.iadd, 1) := by decide +kernel
theorem dL_law_766 : decode cL_law 766 = .ok (.iaload, 1) := by decide +kernel
theorem dL_law_767 : decode cL_law 767 = .ok (.invokevirtual 87, 3) := by decide +kernel
theorem dL_law_770 : decode cL_law 770 = .ok (.if_icmp .eq 350, 3) := by decide +kernel
theorem dL_law_773 : decode cL_law 773 = .ok (.iconst 0, 1) := by decide +kernel
theorem dL_law_774 : decode cL_law 774 = .ok (.ireturn, 1) := by decide +kernel
theorem dL_law_775 : decode cL_law 775 = .ok (.aload_n 1, 1) := by decide +kernel
theorem dL_law_776 : decode cL_law 776 = .ok (.invokevirtual 88, 3) := by decide +kernel
theorem dL_law_779 : decode cL_law 779 = .ok (.aload_n 2, 1) := by decide +kernel
theorem dL_law_780 : decode cL_law 780 = .ok (.invokevirtual 91, 3) := by decide +kernel
theorem dL_law_783 : decode cL_law 783 = .ok (.if_icmp .eq 337, 3) := by decide +kernel
theorem dL_law_786 : decode cL_law 786 = .ok (.iconst 0, 1) := by decide +kernel
theorem dL_law_787 : decode cL_law 787 = .ok (.ireturn, 1) := by decide +kernel
theorem dL_law_788 : decode cL_law 788 = .ok (.aload_n 1, 1) := by decide +kernel
theorem dL_law_789 : decode cL_law 789 = .ok (.aload_n 0, 1) := by decide +kernel
theorem dL_law_790 : decode cL_law 790 = .ok (.iload_n 3, 1) := by decide +kernel
theorem dL_law_791 : decode cL_law 791 = .ok (.iconst 1, 1) := by decide +kernel
theorem dL_law_792 : decode cL_law 792 = .ok (.iadd, 1) := by decide +kernel
theorem dL_law_793 : decode cL_law 793 = .ok (.iaload, 1) := by decide +kernel
theorem dL_law_794 : decode cL_law 794 = .ok (.aload_n 0, 1) := by decide +kernel
theorem dL_law_795 : decode cL_law 795 = .ok (.iload_n 3, 1) := by decide +kernel
theorem dL_law_796 : decode cL_law 796 = .ok (.iconst 2, 1) := by decide +kernel
theorem dL_law_797 : decode cL_law 797 = .ok (.iadd, 1) := by decide +kernel
theorem dL_law_798 : decode cL_law 798 = .ok (.iaload, 1) := by decide +kernel
theorem dL_law_799 : decode cL_law 799 = .ok (.ifCond .eq 7, 3) := by decide +kernel
theorem dL_law_802 : decode cL_law 802 = .ok (.iconst 1, 1) := by decide +kernel
theorem dL_law_803 : decode cL_law 803 = .ok (.goto 4, 3) := by decide +kernel
theorem dL_law_806 : decode cL_law 806 = .ok (.iconst 0, 1) := by decide +kernel
theorem dL_law_807 : decode cL_law 807 = .ok (.invokevirtual 92, 3) := by decide +kernel
theorem dL_law_810 : decode cL_law 810 = .ok (.aload_n 2, 1) := by decide +kernel
theorem dL_law_811 : decode cL_law 811 = .ok (.aload_n 0, 1) := by decide +kernel
theorem dL_law_812 : decode cL_law 812 = .ok (.iload_n 3, 1) := by decide +kernel
theorem dL_law_813 : decode cL_law 813 = .ok (.iconst 1, 1) := by decide +kernel
theorem dL_law_814 : decode cL_law 814 = .ok (.iadd, 1) := by decide +kernel
theorem dL_law_815 : decode cL_law 815 = .ok (.iaload, 1) := by decide +kernel
theorem dL_law_816 : decode cL_law 816 = .ok (.aload_n 0, 1) := by decide +kernel
theorem dL_law_817 : decode cL_law 817 = .ok (.iload_n 3, 1) := by decide +kernel
theorem dL_law_818 : decode cL_law 818 = .ok (.iconst 2, 1) := by decide +kernel
theorem dL_law_819 : decode cL_law 819 = .ok (.iadd, 1) := by decide +kernel
theorem dL_law_820 : decode cL_law 820 = .ok (.iaload, 1) := by decide +kernel
theorem dL_law_821 : decode cL_law 821 = .ok (.ifCond .eq 7, 3) := by decide +kernel
theorem dL_law_824 : decode cL_law 824 = .ok (.iconst 1, 1) := by decide +kernel
theorem dL_law_825 : decode cL_law 825 = .ok (.goto 4, 3) := by decide +kernel
theorem dL_law_828 : decode cL_law 828 = .ok (.iconst 0, 1) := by decide +kernel
theorem dL_law_829 : decode cL_law 829 = .ok (.invokevirtual 96, 3) := by decide +kernel
theorem dL_law_832 : decode cL_law 832 = .ok (.if_icmp .eq 288, 3) := by decide +kernel
theorem dL_law_835 : decode cL_law 835 = .ok (.iconst 0, 1) := by decide +kernel
theorem dL_law_836 : decode cL_law 836 = .ok (.ireturn, 1) := by decide +kernel
theorem dL_law_837 : decode cL_law 837 = .ok (.aload_n 1, 1) := by decide +kernel
theorem dL_law_838 : decode cL_law 838 = .ok (.aload_n 0, 1) := by decide +kernel
theorem dL_law_839 : decode cL_law 839 = .ok (.iload_n 3, 1) := by decide +kernel
theorem dL_law_840 : decode cL_law 840 = .ok (.iconst 1, 1) := by decide +kernel
theorem dL_law_841 : decode cL_law 841 = .ok (.iadd, 1) := by decide +kernel
theorem dL_law_842 : decode cL_law 842 = .ok (.iaload, 1) := by decide +kernel
theorem dL_law_843 : decode cL_law 843 = .ok (.invokevirtual 97, 3) := by decide +kernel
theorem dL_law_846 : decode cL_law 846 = .ok (.aload_n 2, 1) := by decide +kernel
theorem dL_law_847 : decode cL_law 847 = .ok (.aload_n 0, 1) := by decide +kernel
theorem dL_law_848 : decode cL_law 848 = .ok (.iload_n 3, 1) := by decide +kernel
theorem dL_law_849 : decode cL_law 849 = .ok (.iconst 1, 1) := by decide +kernel
theorem dL_law_850 : decode cL_law 850 = .ok (.iadd, 1) := by decide +kernel
theorem dL_law_851 : decode cL_law 851 = .ok (.iaload, 1) := by decide +kernel
theorem dL_law_852 : decode cL_law 852 = .ok (.invokevirtual 100, 3) := by decide +kernel
theorem dL_law_855 : decode cL_law 855 = .ok (.if_icmp .eq 265, 3) := by decide +kernel
theorem dL_law_858 : decode cL_law 858 = .ok (.iconst 0, 1) := by decide +kernel
theorem dL_law_859 : decode cL_law 859 = .ok (.ireturn, 1) := by decide +kernel
theorem dL_law_860 : decode cL_law 860 = .ok (.aload_n 1, 1) := by decide +kernel
theorem dL_law_861 : decode cL_law 861 = .ok (.aload_n 0, 1) := by decide +kernel
theorem dL_law_862 : decode cL_law 862 = .ok (.iload_n 3, 1) := by decide +kernel
theorem dL_law_863 : decode cL_law 863 = .ok (.iconst 1, 1) := by decide +kernel
theorem dL_law_864 : decode cL_law 864 = .ok (.iadd, 1) := by decide +kernel
theorem dL_law_865 : decode cL_law 865 = .ok (.iaload, 1) := by decide +kernel
theorem dL_law_866 : decode cL_law 866 = .ok (.invokevirtual 101, 3) := by decide +kernel
theorem dL_law_869 : decode cL_law 869 = .ok (.aload_n 2, 1) := by decide +kernel
theorem dL_law_870 : decode cL_law 870 = .ok (.aload_n 0, 1) := by decide +kernel
theorem dL_law_871 : decode cL_law 871 = .ok (.iload_n 3, 1) := by decide +kernel
theorem dL_law_872 : decode cL_law 872 = .ok (.iconst 1, 1) := by decide +kernel
theorem dL_law_873 : decode cL_law 873 = .ok (.iadd, 1) := by decide +kernel
theorem dL_law_874 : decode cL_law 874 = .ok (.iaload, 1) := by decide +kernel
theorem dL_law_875 : decode cL_law 875 = .ok (.invokevirtual 104, 3) := by decide +kernel
theorem dL_law_878 : decode cL_law 878 = .ok (.if_icmp .eq 242, 3) := by decide +kernel
theorem dL_law_881 : decode cL_law 881 = .ok (.iconst 0, 1) := by decide +kernel
theorem dL_law_882 : decode cL_law 882 = .ok (.ireturn, 1) := by decide +kernel
theorem dL_law_883 : decode cL_law 883 = .ok (.aload_n 1, 1) := by decide +kernel
theorem dL_law_884 : decode cL_law 884 = .ok (.aload_n 0, 1) := by decide +kernel
theorem dL_law_885 : decode cL_law 885 = .ok (.iload_n 3, 1) := by decide +kernel
theorem dL_law_886 : decode cL_law 886 = .ok (.iconst 1, 1) := by decide +kernel
theorem dL_law_887 : decode cL_law 887 = .ok (.iadd, 1) := by decide +kernel
theorem dL_law_888 : decode cL_law 888 = .ok (.iaload, 1) := by decide +kernel
theorem dL_law_889 : decode cL_law 889 = .ok (.aload_n 0, 1) := by decide +kernel
theorem dL_law_890 : decode cL_law 890 = .ok (.iload_n 3, 1) := by decide +kernel
theorem dL_law_891 : decode cL_law 891 = .ok (.iconst 2, 1) := by decide +kernel
theorem dL_law_892 : decode cL_law 892 = .ok (.iadd, 1) := by decide +kernel
theorem dL_law_893 : decode cL_law 893 = .ok (.iaload, 1) := by decide +kernel
theorem dL_law_894 : decode cL_law 894 = .ok (.invokevirtual 105, 3) := by decide +kernel
theorem dL_law_897 : decode cL_law 897 = .ok (.aload_n 2, 1) := by decide +kernel
theorem dL_law_898 : decode cL_law 898 = .ok (.aload_n 0, 1) := by decide +kernel
theorem dL_law_899 : decode cL_law 899 = .ok (.iload_n 3, 1) := by decide +kernel
theorem dL_law_900 : decode cL_law 900 = .ok (.iconst 1, 1) := by decide +kernel
theorem dL_law_901 : decode cL_law 901 = .ok (.iadd, 1) := by decide +kernel
theorem dL_law_902 : decode cL_law 902 = .ok (.iaload, 1) := by decide +kernel
theorem dL_law_903 : decode cL_law 903 = .ok (.aload_n 0, 1) := by decide +kernel
theorem dL_law_904 : decode cL_law 904 = .ok (.iload_n 3, 1) := by decide +kernel
theorem dL_law_905 : decode cL_law 905 = .ok (.iconst 2, 1) := by decide +kernel
theorem dL_law_906 : decode cL_law 906 = .ok (.iadd, 1) := by decide +kernel
theorem dL_law_907 : decode cL_law 907 = .ok (.iaload, 1) := by decide +kernel
theorem dL_law_908 : decode cL_law 908 = .ok (.invokevirtual 108, 3) := by decide +kernel
theorem dL_law_911 : decode cL_law 911 = .ok (.if_icmp .eq 209, 3) := by decide +kernel
theorem dL_law_914 : decode cL_law 914 = .ok (.iconst 0, 1) := by decide +kernel
theorem dL_law_915 : decode cL_law 915 = .ok (.ireturn, 1) := by decide +kernel
theorem dL_law_916 : decode cL_law 916 = .ok (.aload_n 1, 1) := by decide +kernel
theorem dL_law_917 : decode cL_law 917 = .ok (.aload_n 0, 1) := by decide +kernel
theorem dL_law_918 : decode cL_law 918 = .ok (.iload_n 3, 1) := by decide +kernel
theorem dL_law_919 : decode cL_law 919 = .ok (.iconst 1, 1) := by decide +kernel
theorem dL_law_920 : decode cL_law 920 = .ok (.iadd, 1) := by decide +kernel
theorem dL_law_921 : decode cL_law 921 = .ok (.iaload, 1) := by decide +kernel
theorem dL_law_922 : decode cL_law 922 = .ok (.aload_n 0, 1) := by decide +kernel
theorem dL_law_923 : decode cL_law 923 = .ok (.iload_n 3, 1) := by decide +kernel
theorem dL_law_924 : decode cL_law 924 = .ok (.iconst 2, 1) := by decide +kernel
theorem dL_law_925 : decode cL_law 925 = .ok (.iadd, 1) := by decide +kernel
theorem dL_law_926 : decode cL_law 926 = .ok (.iaload, 1) := by decide +kernel
theorem dL_law_927 : decode cL_law 927 = .ok (.invokevirtual 109, 3) := by decide +kernel
theorem dL_law_930 : decode cL_law 930 = .ok (.aload_n 2, 1) := by decide +kernel
theorem dL_law_931 : decode cL_law 931 = .ok (.aload_n 0, 1) := by decide +kernel
theorem dL_law_932 : decode cL_law 932 = .ok (.iload_n 3, 1) := by decide +kernel
theorem dL_law_933 : decode cL_law 933 = .ok (.iconst 1, 1) := by decide +kernel
theorem dL_law_934 : decode cL_law 934 = .ok (.iadd, 1) := by decide +kernel
theorem dL_law_935 : decode cL_law 935 = .ok (.iaload, 1) := by decide +kernel
theorem dL_law_936 : decode cL_law 936 = .ok (.aload_n 0, 1) := by decide +kernel
theorem dL_law_937 : decode cL_law 937 = .ok (.iload_n 3, 1) := by decide +kernel
theorem dL_law_938 : decode cL_law 938 = .ok (.iconst 2, 1) := by decide +kernel
theorem dL_law_939 : decode cL_law 939 = .ok (.iadd, 1) := by decide +kernel
theorem dL_law_940 : decode cL_law 940 = .ok (.iaload, 1) := by decide +kernel
theorem dL_law_941 : decode cL_law 941 = .ok (.invokevirtual 112, 3) := by decide +kernel
theorem dL_law_944 : decode cL_law 944 = .ok (.if_icmp .eq 176, 3) := by decide +kernel
theorem dL_law_947 : decode cL_law 947 = .ok (.iconst 0, 1) := by decide +kernel
theorem dL_law_948 : decode cL_law 948 = .ok (.ireturn, 1) := by decide +kernel
theorem dL_law_949 : decode cL_law 949 = .ok (.aload_n 1, 1) := by decide +kernel
theorem dL_law_950 : decode cL_law 950 = .ok (.aload_n 0, 1) := by decide +kernel
theorem dL_law_951 : decode cL_law 951 = .ok (.iload_n 3, 1) := by decide +kernel
theorem dL_law_952 : decode cL_law 952 = .ok (.iconst 1, 1) := by decide +kernel
theorem dL_law_953 : decode cL_law 953 = .ok (.iadd, 1) := by decide +kernel
theorem dL_law_954 : decode cL_law 954 = .ok (.iaload, 1) := by decide +kernel
theorem dL_law_955 : decode cL_law 955 = .ok (.aload_n 0, 1) := by decide +kernel
theorem dL_law_956 : decode cL_law 956 = .ok (.iload_n 3, 1) := by decide +kernel
theorem dL_law_957 : decode cL_law 957 = .ok (.iconst 2, 1) := by decide +kernel
theorem dL_law_958 : decode cL_law 958 = .ok (.iadd, 1) := by decide +kernel
theorem dL_law_959 : decode cL_law 959 = .ok (.iaload, 1) := by decide +kernel
theorem dL_law_960 : decode cL_law 960 = .ok (.aload_n 0, 1) := by decide +kernel
theorem dL_law_961 : decode cL_law 961 = .ok (.iload_n 3, 1) := by decide +kernel
theorem dL_law_962 : decode cL_law 962 = .ok (.iconst 3, 1) := by decide +kernel
theorem dL_law_963 : decode cL_law 963 = .ok (.iadd, 1) := by decide +kernel
theorem dL_law_964 : decode cL_law 964 = .ok (.iaload, 1) := by decide +kernel
theorem dL_law_965 : decode cL_law 965 = .ok (.invokevirtual 113, 3) := by decide +kernel
theorem dL_law_968 : decode cL_law 968 = .ok (.aload_n 2, 1) := by decide +kernel
theorem dL_law_969 : decode cL_law 969 = .ok (.aload_n 0, 1) := by decide +kernel
theorem dL_law_970 : decode cL_law 970 = .ok (.iload_n 3, 1) := by decide +kernel
theorem dL_law_971 : decode cL_law 971 = .ok (.iconst 1, 1) := by decide +kernel
theorem dL_law_972 : decode cL_law 972 = .ok (.iadd, 1) := by decide +kernel
theorem dL_law_973 : decode cL_law 973 = .ok (.iaload, 1) := by decide +kernel
theorem dL_law_974 : decode cL_law 974 = .ok (.aload_n 0, 1) := by decide +kernel
theorem dL_law_975 : decode cL_law 975 = .ok (.iload_n 3, 1) := by decide +kernel
theorem dL_law_976 : decode cL_law 976 = .ok (.iconst 2, 1) := by decide +kernel
theorem dL_law_977 : decode cL_law 977 = .ok (.iadd, 1) := by decide +kernel
theorem dL_law_978 : decode cL_law 978 = .ok (.iaload, 1) := by decide +kernel
theorem dL_law_979 : decode cL_law 979 = .ok (.aload_n 0, 1) := by decide +kernel
theorem dL_law_980 : decode cL_law 980 = .ok (.iload_n 3, 1) := by decide +kernel
theorem dL_law_981 : decode cL_law 981 = .ok (.iconst 3, 1) := by decide +kernel
theorem dL_law_982 : decode cL_law 982 = .ok (.iadd, 1) := by decide +kernel
theorem dL_law_983 : decode cL_law 983 = .ok (.iaload, 1) := by decide +kernel
theorem dL_law_984 : decode cL_law 984 = .ok (.invokevirtual 116, 3) := by decide +kernel
theorem dL_law_987 : decode cL_law 987 = .ok (.if_icmp .eq 133, 3) := by decide +kernel
theorem dL_law_990 : decode cL_law 990 = .ok (.iconst 0, 1) := by decide +kernel
theorem dL_law_991 : decode cL_law 991 = .ok (.ireturn, 1) := by decide +kernel
theorem dL_law_992 : decode cL_law 992 = .ok (.aload_n 1, 1) := by decide +kernel
theorem dL_law_993 : decode cL_law 993 = .ok (.aload_n 0, 1) := by decide +kernel
theorem dL_law_994 : decode cL_law 994 = .ok (.iload_n 3, 1) := by decide +kernel
theorem dL_law_995 : decode cL_law 995 = .ok (.iconst 1, 1) := by decide +kernel
theorem dL_law_996 : decode cL_law 996 = .ok (.iadd, 1) := by decide +kernel
theorem dL_law_997 : decode cL_law 997 = .ok (.iaload, 1) := by decide +kernel
theorem dL_law_998 : decode cL_law 998 = .ok (.invokevirtual 117, 3) := by decide +kernel
theorem dL_law_1001 : decode cL_law 1001 = .ok (.aload_n 2, 1) := by decide +kernel
theorem dL_law_1002 : decode cL_law 1002 = .ok (.aload_n 0, 1) := by decide +kernel
theorem dL_law_1003 : decode cL_law 1003 = .ok (.iload_n 3, 1) := by decide +kernel
theorem dL_law_1004 : decode cL_law 1004 = .ok (.iconst 1, 1) := by decide +kernel
theorem dL_law_1005 : decode cL_law 1005 = .ok (.iadd, 1) := by decide +kernel
theorem dL_law_1006 : decode cL_law 1006 = .ok (.iaload, 1) := by decide +kernel
theorem dL_law_1007 : decode cL_law 1007 = .ok (.invokevirtual 120, 3) := by decide +kernel
theorem dL_law_1010 : decode cL_law 1010 = .ok (.if_icmp .eq 110, 3) := by decide +kernel
theorem dL_law_1013 : decode cL_law 1013 = .ok (.iconst 0, 1) := by decide +kernel
theorem dL_law_1014 : decode cL_law 1014 = .ok (.ireturn, 1) := by decide +kernel
theorem dL_law_1015 : decode cL_law 1015 = .ok (.aload_n 1, 1) := by decide +kernel
theorem dL_law_1016 : decode cL_law 1016 = .ok (.aload_n 0, 1) := by decide +kernel
theorem dL_law_1017 : decode cL_law 1017 = .ok (.iload_n 3, 1) := by decide +kernel
theorem dL_law_1018 : decode cL_law 1018 = .ok (.iconst 1, 1) := by decide +kernel
theorem dL_law_1019 : decode cL_law 1019 = .ok (.iadd, 1) := by decide +kernel
theorem dL_law_1020 : decode cL_law 1020 = .ok (.iaload, 1) := by decide +kernel
theorem dL_law_1021 : decode cL_law 1021 = .ok (.invokevirtual 121, 3) := by decide +kernel
theorem dL_law_1024 : decode cL_law 1024 = .ok (.aload_n 2, 1) := by decide +kernel
theorem dL_law_1025 : decode cL_law 1025 = .ok (.aload_n 0, 1) := by decide +kernel
theorem dL_law_1026 : decode cL_law 1026 = .ok (.iload_n 3, 1) := by decide +kernel
theorem dL_law_1027 : decode cL_law 1027 = .ok (.iconst 1, 1) := by decide +kernel
theorem dL_law_1028 : decode cL_law 1028 = .ok (.iadd, 1) := by decide +kernel
end
section
theorem dL_law_1029 : decode cL_law 1029 = .ok (.iaload, 1) := by decide +kernel
theorem dL_law_1030 : decode cL_law 1030 = .ok (.invokevirtual 124, 3) := by decide +kernel
theorem dL_law_1033 : decode cL_law 1033 = .ok (.if_icmp .eq 87, 3) := by decide +kernel
theorem dL_law_1036 : decode cL_law 1036 = .ok (.iconst 0, 1) := by decide +kernel
theorem dL_law_1037 : decode cL_law 1037 = .ok (.ireturn, 1) := by decide +kernel
theorem dL_law_1038 : decode cL_law 1038 = .ok (.aload_n 1, 1) := by decide +kernel
theorem dL_law_1039 : decode cL_law 1039 = .ok (.aload_n 0, 1) := by decide +kernel
theorem dL_law_1040 : decode cL_law 1040 = .ok (.iload_n 3, 1) := by decide +kernel
theorem dL_law_1041 : decode cL_law 1041 = .ok (.iconst 1, 1) := by decide +kernel
theorem dL_law_1042 : decode cL_law 1042 = .ok (.iadd, 1) := by decide +kernel
theorem dL_law_1043 : decode cL_law 1043 = .ok (.iaload, 1) := by decide +kernel
theorem dL_law_1044 : decode cL_law 1044 = .ok (.invokevirtual 125, 3) := by decide +kernel
theorem dL_law_1047 : decode cL_law 1047 = .ok (.aload_n 2, 1) := by decide +kernel
theorem dL_law_1048 : decode cL_law 1048 = .ok (.aload_n 0, 1) := by decide +kernel
theorem dL_law_1049 : decode cL_law 1049 = .ok (.iload_n 3, 1) := by decide +kernel
theorem dL_law_1050 : decode cL_law 1050 = .ok (.iconst 1, 1) := by decide +kernel
theorem dL_law_1051 : decode cL_law 1051 = .ok (.iadd, 1) := by decide +kernel
theorem dL_law_1052 : decode cL_law 1052 = .ok (.iaload, 1) := by decide +kernel
theorem dL_law_1053 : decode cL_law 1053 = .ok (.invokevirtual 128, 3) := by decide +kernel
theorem dL_law_1056 : decode cL_law 1056 = .ok (.if_icmp .eq 64, 3) := by decide +kernel
theorem dL_law_1059 : decode cL_law 1059 = .ok (.iconst 0, 1) := by decide +kernel
theorem dL_law_1060 : decode cL_law 1060 = .ok (.ireturn, 1) := by decide +kernel
theorem dL_law_1061 : decode cL_law 1061 = .ok (.aload_n 1, 1) := by decide +kernel
theorem dL_law_1062 : decode cL_law 1062 = .ok (.aload_n 0, 1) := by decide +kernel
theorem dL_law_1063 : decode cL_law 1063 = .ok (.iload_n 3, 1) := by decide +kernel
theorem dL_law_1064 : decode cL_law 1064 = .ok (.iconst 1, 1) := by decide +kernel
theorem dL_law_1065 : decode cL_law 1065 = .ok (.iadd, 1) := by decide +kernel
theorem dL_law_1066 : decode cL_law 1066 = .ok (.iaload, 1) := by decide +kernel
theorem dL_law_1067 : decode cL_law 1067 = .ok (.invokevirtual 129, 3) := by decide +kernel
theorem dL_law_1070 : decode cL_law 1070 = .ok (.aload_n 2, 1) := by decide +kernel
theorem dL_law_1071 : decode cL_law 1071 = .ok (.aload_n 0, 1) := by decide +kernel
theorem dL_law_1072 : decode cL_law 1072 = .ok (.iload_n 3, 1) := by decide +kernel
theorem dL_law_1073 : decode cL_law 1073 = .ok (.iconst 1, 1) := by decide +kernel
theorem dL_law_1074 : decode cL_law 1074 = .ok (.iadd, 1) := by decide +kernel
theorem dL_law_1075 : decode cL_law 1075 = .ok (.iaload, 1) := by decide +kernel
theorem dL_law_1076 : decode cL_law 1076 = .ok (.invokevirtual 132, 3) := by decide +kernel
theorem dL_law_1079 : decode cL_law 1079 = .ok (.if_icmp .eq 41, 3) := by decide +kernel
theorem dL_law_1082 : decode cL_law 1082 = .ok (.iconst 0, 1) := by decide +kernel
theorem dL_law_1083 : decode cL_law 1083 = .ok (.ireturn, 1) := by decide +kernel
theorem dL_law_1084 : decode cL_law 1084 = .ok (.aload_n 1, 1) := by decide +kernel
theorem dL_law_1085 : decode cL_law 1085 = .ok (.aload_n 0, 1) := by decide +kernel
theorem dL_law_1086 : decode cL_law 1086 = .ok (.iload_n 3, 1) := by decide +kernel
theorem dL_law_1087 : decode cL_law 1087 = .ok (.iconst 1, 1) := by decide +kernel
theorem dL_law_1088 : decode cL_law 1088 = .ok (.iadd, 1) := by decide +kernel
theorem dL_law_1089 : decode cL_law 1089 = .ok (.iaload, 1) := by decide +kernel
theorem dL_law_1090 : decode cL_law 1090 = .ok (.invokevirtual 133, 3) := by decide +kernel
theorem dL_law_1093 : decode cL_law 1093 = .ok (.aload_n 2, 1) := by decide +kernel
theorem dL_law_1094 : decode cL_law 1094 = .ok (.aload_n 0, 1) := by decide +kernel
theorem dL_law_1095 : decode cL_law 1095 = .ok (.iload_n 3, 1) := by decide +kernel
theorem dL_law_1096 : decode cL_law 1096 = .ok (.iconst 1, 1) := by decide +kernel
theorem dL_law_1097 : decode cL_law 1097 = .ok (.iadd, 1) := by decide +kernel
theorem dL_law_1098 : decode cL_law 1098 = .ok (.iaload, 1) := by decide +kernel
theorem dL_law_1099 : decode cL_law 1099 = .ok (.invokevirtual 136, 3) := by decide +kernel
theorem dL_law_1102 : decode cL_law 1102 = .ok (.if_icmp .eq 18, 3) := by decide +kernel
theorem dL_law_1105 : decode cL_law 1105 = .ok (.iconst 0, 1) := by decide +kernel
theorem dL_law_1106 : decode cL_law 1106 = .ok (.ireturn, 1) := by decide +kernel
theorem dL_law_1107 : decode cL_law 1107 = .ok (.aload_n 1, 1) := by decide +kernel
theorem dL_law_1108 : decode cL_law 1108 = .ok (.invokevirtual 137, 3) := by decide +kernel
theorem dL_law_1111 : decode cL_law 1111 = .ok (.aload_n 2, 1) := by decide +kernel
theorem dL_law_1112 : decode cL_law 1112 = .ok (.invokevirtual 140, 3) := by decide +kernel
theorem dL_law_1115 : decode cL_law 1115 = .ok (.if_icmp .eq 5, 3) := by decide +kernel
theorem dL_law_1118 : decode cL_law 1118 = .ok (.iconst 0, 1) := by decide +kernel
theorem dL_law_1119 : decode cL_law 1119 = .ok (.ireturn, 1) := by decide +kernel
theorem dL_law_1120 : decode cL_law 1120 = .ok (.iinc 3 6, 3) := by decide +kernel
theorem dL_law_1123 : decode cL_law 1123 = .ok (.goto (-1105), 3) := by decide +kernel
theorem dL_law_1126 : decode cL_law 1126 = .ok (.iconst 1, 1) := by decide +kernel
theorem dL_law_1127 : decode cL_law 1127 = .ok (.ireturn, 1) := by decide +kernel
end
section
/-! a call with two ends: it comes back, or it throws -/
def tw_FE (st t : State) (L : List Loc) (k n : Nat) : Prop := st.WarmedH t.vm ∧ st.sameButNew ({ t with vm := st.vm } : State) L k n
def tw_Bk (l : Launch) (R : Room) (p : Program) (e : Env) (below : List Frame) (s : State) (sargs : Array Value) (y : MethodName) (len W : Nat)
    (Pre : Pt → Array Value → Prop) (PostR : Pt → Array Value → Option Value → Pt → Prop) (PostT : Pt → Array Value → Addr → Pt → Prop) : Prop :=
  ∀ (m : MethodId) (meth : Method) (c : Code) (A : Pt) (g : JFrame) (ig : Instr) (mk : MethodId) (a : Array Value),
    Stand p l e R s m sargs below meth c A.U A.locs A.cells A.slots → g.method = m → g.locals.size = c.maxLocals → decode c.code g.pc = .ok (ig, len) →
    2 * g.monitorRoom + (g.stack.map fun v => v.category).sum ≤ W → A.U.methodNamed? y = some mk → Pre A a →
    (∃ (v : Option Value) (B : Pt), Stand p l e R s m sargs below meth c B.U B.locs B.cells B.slots ∧ PostR A a v B ∧
      Steps p.tables e below (doInvoke e (A.U.setTop g) [] mk a).1 (B.U.setTop { g with pc := g.pc + len, stack := v.toList ++ g.stack })) ∨
    (∃ (x : Addr) (B : Pt), Stand p l e R s m sargs below meth c B.U B.locs B.cells B.slots ∧ PostT A a x B ∧
      Steps p.tables e below (doInvoke e (A.U.setTop g) [] mk a).1 ((B.U.setTop g).pushFrame (.throwing x)))
section TWB
variable {l : Launch} {R : Room} {p : Program} {e : Env} {below : List Frame} {s : State} {sargs : Array Value} {y : MethodName} {len W : Nat}
theorem tw_ofF {Pre : Pt → Array Value → Prop} {PostR : Pt → Array Value → Option Value → Pt → Prop} {PostT : Pt → Array Value → Addr → Pt → Prop} {S : Spec} {P : Array Value → State → Prop}
    {Q : Array Value → State → Outcome → State → Prop} {maxL mc ms : Nat} {fr : Addr → Prop}
    (hM : MetFree l y S P (fun _ _ _ _ _ => True) Q)
    (hframes : S.room.frames + 1 ≤ R.frames) (hlocals : W + (maxL + 11) + S.room.locals ≤ R.locals)
    (hpre : ∀ m meth c (A : Pt) a, Stand p l e R s m sargs below meth c A.U A.locs A.cells A.slots → Pre A a → S.pre.before a A.U = true ∧ (∀ mk, A.U.methodNamed? y = some mk → ∃ (methY : Method) (cY : Code), A.U.vm.method? mk = some methY ∧ methY.code = some cY ∧ cY.maxLocals = maxL) ∧ (Cond.initialized y.cls).before a A.U = true ∧ A.cells + S.room.cells ≤ R.cells ∧ A.slots + S.room.slots ≤ R.slots)
    (hP : ∀ m meth c (A : Pt) a (g : JFrame) mk, Stand p l e R s m sargs below meth c A.U A.locs A.cells A.slots → Pre A a → P a (A.U.calling g mk a))
    (hQ : ∀ a first o t, Q a first o t → ∃ L, tw_FE first t L mc ms ∧ ∀ q ∈ L, fr q.base)
    (hpostR : ∀ m meth c (A : Pt) a (g : JFrame) mk v t L, Stand p l e R s m sargs below meth c A.U A.locs A.cells A.slots → Pre A a → Q a (A.U.calling g mk a) (.returned v) t → tw_FE (A.U.calling g mk a) t L mc ms → (∀ q ∈ L, fr q.base) →
      PostR A a v ⟨(({ A.U with heap := t.heap, slotsUsed := t.slotsUsed } : State).setVm t.vm), A.locs ++ L, A.cells + mc, A.slots + ms⟩)
    (hpostT : ∀ m meth c (A : Pt) a (g : JFrame) mk x t L, Stand p l e R s m sargs below meth c A.U A.locs A.cells A.slots → Pre A a → Q a (A.U.calling g mk a) (.threw x) t → tw_FE (A.U.calling g mk a) t L mc ms → (∀ q ∈ L, fr q.base) →
      PostT A a x ⟨(({ A.U with heap := t.heap, slotsUsed := t.slotsUsed } : State).setVm t.vm), A.locs ++ L, A.cells + mc, A.slots + ms⟩) :
    tw_Bk l R p e below s sargs y len W Pre PostR PostT := by
  intro m meth c A g ig mk a X hg hsize hdg hW hn hp
  obtain ⟨h1, h2, h3, h4, h5⟩ := hpre m meth c A a X hp
  obtain ⟨U, Ls, c0, s0⟩ := A
  dsimp only [Pt.U, Pt.locs, Pt.cells, Pt.slots] at h1 h2 h3 h4 h5 X hn ⊢
  obtain ⟨methY, cY, hmY, hcY, hlY⟩ := h2 mk hn
  obtain ⟨kY, hkY, -⟩ := className_of_methodNamed hn
  have hinitY : kY.init = .initialized := Cond.initialized_spec (findClass_of_methodNamed hn) hkY h3
  have h : At U g.method c below := by rw [hg]; exact X.here
  have happ : S.appliesLoose y e.platform (U.calling g mk a) = true :=
    Spec.appliesLoose_calling (g := g) h hdg hn hkY hinitY
      (X.room_calling (g := g) (R' := S.room) hsize hmY hcY hframes (by rw [hlY]; omega) h4 h5) h1
  obtain ⟨mid, hmid⟩ := h.above
  have hfr : (U.setTop g).frames = (.java g :: mid) ++ below := by rw [State.frames_setTop' g h.top, hmid]; rfl
  obtain ⟨o, s₂, hsteps, -, hend, hq⟩ := Steps.callFree hM p X.admits X.cas X.clock (acts := []) hfr happ (hP m meth c ⟨U, Ls, c0, s0⟩ a g mk X hp) trivial
  have hq' : Q a (U.calling g mk a) o s₂ := hq
  rw [State.frames_setTop' g h.top] at hend
  obtain ⟨L, hfe, hfr9⟩ := hQ _ _ _ _ hq'
  obtain ⟨hW₂, e2, q2, q3, q4, q5, q6⟩ := id hfe
  have e3 : s₂ = ({ (U.calling g mk a).setFrames s₂.frames with heap := s₂.heap, slotsUsed := s₂.slotsUsed } : State).setVm s₂.vm := by
    have : s₂ = ({ s₂ with vm := (U.calling g mk a).vm } : State).setVm s₂.vm := rfl
    rw [e2] at this
    exact this
  have hW' : U.WarmedH s₂.vm := hW₂
  obtain ⟨g₀, hg0⟩ := Option.isSome_iff_exists.mp h.top
  obtain ⟨r, hr⟩ := State.topJava?_eq_some.mp hg0
  have hr' : (({ U with heap := s₂.heap, slotsUsed := s₂.slotsUsed } : State).setVm s₂.vm).frames = .java g₀ :: r := hr
  have hsame : U.sameButNew ({ U with heap := s₂.heap, slotsUsed := s₂.slotsUsed } : State) L mc ms := by
    refine ⟨?_, q2, q3, q4, q5, q6⟩
    obtain ⟨t, ht, -⟩ := State.frames_cons hr
    show ({ U with heap := s₂.heap, slotsUsed := s₂.slotsUsed } : State) = { U.setFrames U.frames with heap := s₂.heap, slotsUsed := s₂.slotsUsed }
    rw [State.setFrames_self ht]
  have X2 : Stand p l e R s m sargs below meth c (({ U with heap := s₂.heap, slotsUsed := s₂.slotsUsed } : State).setVm s₂.vm) (Ls ++ L) (c0 + mc) (s0 + ms) :=
    ⟨X.admits, X.cas, X.clock, X.frames, X.room, X.hears, X.method, X.code, (X.here.setHeapUsed s₂.heap s₂.slotsUsed).setVm hW'.alike, X.tail, State.WarmedH.trans X.warmed hW', X.limits, X.bytes, X.same.trans (hsame.setVm s.vm)⟩
  cases o with
  | returned v =>
    left
    obtain ⟨c₂, i₂, len₂, hc₂, hd₂, hf₂⟩ := hend
    have hcc : c₂ = c := by
      have h1 : s₂.code? g.method = U.code? g.method := by
        rw [State.code?_eq, State.code?_eq, hW'.alike.method?]
      exact Option.some.inj (hc₂.symm.trans (h1.trans h.code))
    subst hcc
    have hlen : len₂ = len := by rw [hdg] at hd₂; cases hd₂; rfl
    subst hlen
    have hs₂ : s₂ = (({ U with heap := s₂.heap, slotsUsed := s₂.slotsUsed } : State).setVm s₂.vm).setTop { g with pc := g.pc + len₂, stack := v.toList ++ g.stack } := by
      refine e3.trans ?_
      rw [hf₂, State.calling_eq h.top, State.setFrames_setFrames, State.setTop_of_frames _ hr', hr]
      rfl
    refine ⟨v, ⟨(({ U with heap := s₂.heap, slotsUsed := s₂.slotsUsed } : State).setVm s₂.vm), Ls ++ L, c0 + mc, s0 + ms⟩, X2, hpostR _ meth _ ⟨U, Ls, c0, s0⟩ a g mk v s₂ L X hp hq' hfe hfr9, ?_⟩
    show Steps p.tables e below _ ((({ U with heap := s₂.heap, slotsUsed := s₂.slotsUsed } : State).setVm s₂.vm).setTop { g with pc := g.pc + len₂, stack := v.toList ++ g.stack })
    rw [← hs₂]
    exact hsteps
  | threw x =>
    right
    have hf₂ : s₂.frames = .throwing x :: .java g :: U.frames.tail := hend
    have hs₂ : s₂ = ((({ U with heap := s₂.heap, slotsUsed := s₂.slotsUsed } : State).setVm s₂.vm).setTop g).pushFrame (.throwing x) := by
      refine e3.trans ?_
      rw [hf₂, State.calling_eq h.top, State.setFrames_setFrames, State.pushFrame, State.frames_setTop _ hr', State.setTop_of_frames _ hr', State.setFrames_setFrames, hr]
      rfl
    refine ⟨x, ⟨(({ U with heap := s₂.heap, slotsUsed := s₂.slotsUsed } : State).setVm s₂.vm), Ls ++ L, c0 + mc, s0 + ms⟩, X2, hpostT _ meth _ ⟨U, Ls, c0, s0⟩ a g mk x s₂ L X hp hq' hfe hfr9, ?_⟩
    show Steps p.tables e below _ (((({ U with heap := s₂.heap, slotsUsed := s₂.slotsUsed } : State).setVm s₂.vm).setTop g).pushFrame (.throwing x))
    rw [← hs₂]
    exact hsteps
end TWB
end
section
def pk (p : Nat) : Nat ⊕ Nat := match p with
  | 0 => .inl 12
  | 1 => .inl 9
  | 2 => .inl 5
  | 3 => .inl 11
  | 4 => .inl 7
  | 5 => .inl 10
  | 6 => .inl 2
  | 7 => .inl 0
  | 8 => .inl 1
  | 9 => .inl 4
  | 10 => .inl 6
  | 11 => .inl 8
  | 12 => .inl 3
  | 13 => .inr 0
  | 14 => .inr 2
  | 15 => .inr 4
  | 16 => .inr 3
  | 17 => .inr 0
  | 18 => .inr 0
  | 19 => .inr 0
  | 32 => .inl 15
  | 33 => .inl 13
  | 34 => .inl 13
  | 35 => .inl 14
  | 36 => .inr 5
  | 37 => .inr 1
  | 38 => .inr 0
  | 39 => .inr 2
  | 40 => .inr 0
  | 41 => .inr 0
  | 42 => .inr 0
  | 43 => .inr 0
  | 44 => .inr 0
  | 45 => .inr 0
  | 46 => .inr 0
  | 47 => .inr 0
  | 48 => .inr 0
  | 49 => .inr 0
  | 50 => .inr 0
  | 51 => .inr 0
  | 52 => .inr 0
  | 53 => .inr 0
  | 54 => .inr 0
  | 55 => .inr 0
  | 56 => .inr 0
  | 57 => .inr 0
  | 58 => .inr 0
  | 59 => .inr 0
  | _ => .inr 0
def fk (ci k : Nat) : Nat := match ci with
  | 0 => if k ∈ ([1] : List Nat) then 2 else 0
  | 1 => if k ∈ ([5] : List Nat) then 2 else 0
  | 2 => if k ∈ ([1] : List Nat) then 1 else 0
  | 3 => 0
  | 4 => if k ∈ ([4, 5] : List Nat) then 2 else 0
  | 5 => if k ∈ ([0, 1, 2, 3, 4] : List Nat) then 2 else 0
  | 6 => if k ∈ ([1] : List Nat) then 2 else 0
  | 7 => if k ∈ ([0] : List Nat) then 2 else 0
  | 8 => 0
  | 9 => if k ∈ ([0] : List Nat) then 2 else 0
  | 10 => if k ∈ ([0] : List Nat) then 2 else 0
  | 11 => if k ∈ ([0, 1] : List Nat) then 2 else 0
  | 12 => if k ∈ ([0, 1, 2, 3, 4, 5, 6, 7, 8, 9] : List Nat) then 2 else 0
  | 13 => if k ∈ ([4, 5, 6, 7, 8, 9, 10, 11, 12, 13] : List Nat) then 2 else 0
  | 14 => if k ∈ ([0, 1, 2, 3, 4] : List Nat) then 2 else 0
  | 15 => if k ∈ ([6, 7, 8, 9, 24, 25, 26, 27, 28, 29, 30, 31, 32, 33, 34, 35, 40, 41, 42, 43, 44, 45, 46, 47, 52, 53, 54] : List Nat) then 2 else if k ∈ ([19] : List Nat) then 1 else 0
  | _ => 0
def aty (t : Nat) : FieldType := match t with | 0 => .int | 1 => .byte | 2 => .boolean | 3 => .object "java/lang/Object" | 4 => .object "AlmsHouse$Change" | _ => .object "AlmsHouseModel$Scheme"
def lw_g : List Cond := lw_tbl.filter goodWord
def isNw (w : Cond) : Bool := match w with | .fieldLinkNest .. => true | .methodLinkNest .. => true | .castable .. => true | .declares .. => true | _ => false
def lw_n : List Cond := lw_tbl.filter isNw
theorem lw_g_in {w : Cond} {i : Nat} (h : lw_tbl[i]? = some w) (hg : goodWord w = true) : w ∈ lw_g := List.mem_filter.mpr ⟨List.mem_of_getElem? h, hg⟩
theorem lw_n_in {w : Cond} {i : Nat} (h : lw_tbl[i]? = some w) (hg : isNw w = true) : w ∈ lw_n := List.mem_filter.mpr ⟨List.mem_of_getElem? h, hg⟩
def nF (ci : Nat) : Nat := ((vwCl[ci]?).map (fun q => q.2.2)).getD 0
def CF (q : vw_C) : Prop := (∀ w ∈ u_ws q.1 q.2.1 q.2.2, w ∈ lw_g) ∧ (∃ ty : Nat → FieldType, ∀ k, k < q.2.2 → parseFieldDescriptor (q.2.1 k).2.2.1 = some (ty k)) ∧ (∀ a, a < q.2.2 → ∀ b, b < q.2.2 → a ≠ b → (q.2.1 a).2.1 ≠ (q.2.1 b).2.1) ∧ Cond.instantiable q.1 q.2.2 ∈ lw_g ∧ Cond.initialized q.1 ∈ lw_g
theorem cf_0 : CF (RJx4a65c, TJx4a65c, 3) := ⟨fun w hw => (by
  have e : u_ws RJx4a65c TJx4a65c 3 = [235, 231, 233].filterMap (fun i => lw_tbl[i]?) := by decide +kernel
  have g : (u_ws RJx4a65c TJx4a65c 3).all goodWord = true := by decide +kernel
  have hw : w ∈ u_ws RJx4a65c TJx4a65c 3 := hw
  refine List.mem_filter.mpr ⟨?_, List.all_eq_true.mp g w hw⟩
  rw [e] at hw
  obtain ⟨i, -, hi⟩ := List.mem_filterMap.mp hw
  exact List.mem_of_getElem? hi), ⟨tyJx4a65c, tyJx4a65c_ok⟩, nmJx4a65c, lw_g_in (i := 213) (by decide +kernel) (by decide +kernel), lw_g_in (i := 76) (by decide +kernel) (by decide +kernel)⟩
theorem cf_1 : CF (RX0, TX0, 6) := ⟨fun w hw => (by
  have e : u_ws RX0 TX0 6 = [624, 626, 628, 630, 632, 634].filterMap (fun i => lw_tbl[i]?) := by decide +kernel
  have g : (u_ws RX0 TX0 6).all goodWord = true := by decide +kernel
  have hw : w ∈ u_ws RX0 TX0 6 := hw
  refine List.mem_filter.mpr ⟨?_, List.all_eq_true.mp g w hw⟩
  rw [e] at hw
  obtain ⟨i, -, hi⟩ := List.mem_filterMap.mp hw
  exact List.mem_of_getElem? hi), ⟨tyX0, tyX0_ok⟩, nmX0, lw_g_in (i := 574) (by decide +kernel) (by decide +kernel), lw_g_in (i := 90) (by decide +kernel) (by decide +kernel)⟩
theorem cf_2 : CF (RX1, TX1, 2) := ⟨fun w hw => (by
  have e : u_ws RX1 TX1 2 = [279, 281].filterMap (fun i => lw_tbl[i]?) := by decide +kernel
  have g : (u_ws RX1 TX1 2).all goodWord = true := by decide +kernel
  have hw : w ∈ u_ws RX1 TX1 2 := hw
  refine List.mem_filter.mpr ⟨?_, List.all_eq_true.mp g w hw⟩
  rw [e] at hw
  obtain ⟨i, -, hi⟩ := List.mem_filterMap.mp hw
  exact List.mem_of_getElem? hi), ⟨tyX1, tyX1_ok⟩, nmX1, lw_g_in (i := 270) (by decide +kernel) (by decide +kernel), lw_g_in (i := 79) (by decide +kernel) (by decide +kernel)⟩
theorem cf_3 : CF (RX2, TX2, 3) := ⟨fun w hw => (by
  have e : u_ws RX2 TX2 3 = [994, 996, 998].filterMap (fun i => lw_tbl[i]?) := by decide +kernel
  have g : (u_ws RX2 TX2 3).all goodWord = true := by decide +kernel
  have hw : w ∈ u_ws RX2 TX2 3 := hw
  refine List.mem_filter.mpr ⟨?_, List.all_eq_true.mp g w hw⟩
  rw [e] at hw
  obtain ⟨i, -, hi⟩ := List.mem_filterMap.mp hw
  exact List.mem_of_getElem? hi), ⟨tyX2, tyX2_ok⟩, nmX2, lw_g_in (i := 985) (by decide +kernel) (by decide +kernel), lw_g_in (i := 99) (by decide +kernel) (by decide +kernel)⟩
theorem cf_4 : CF (RX3, TX3, 11) := ⟨fun w hw => (by
  have e : u_ws RX3 TX3 11 = [773, 775, 777, 779, 781, 783, 785, 787, 789, 791, 793].filterMap (fun i => lw_tbl[i]?) := by decide +kernel
  have g : (u_ws RX3 TX3 11).all goodWord = true := by decide +kernel
  have hw : w ∈ u_ws RX3 TX3 11 := hw
  refine List.mem_filter.mpr ⟨?_, List.all_eq_true.mp g w hw⟩
  rw [e] at hw
  obtain ⟨i, -, hi⟩ := List.mem_filterMap.mp hw
  exact List.mem_of_getElem? hi), ⟨tyX3, tyX3_ok⟩, nmX3, lw_g_in (i := 751) (by decide +kernel) (by decide +kernel), lw_g_in (i := 96) (by decide +kernel) (by decide +kernel)⟩
theorem cf_5 : CF (RX4, TX4, 14) := ⟨fun w hw => (by
  have e : u_ws RX4 TX4 14 = [183, 185, 187, 189, 191, 193, 195, 197, 199, 201, 203, 205, 207, 209].filterMap (fun i => lw_tbl[i]?) := by decide +kernel
  have g : (u_ws RX4 TX4 14).all goodWord = true := by decide +kernel
  have hw : w ∈ u_ws RX4 TX4 14 := hw
  refine List.mem_filter.mpr ⟨?_, List.all_eq_true.mp g w hw⟩
  rw [e] at hw
  obtain ⟨i, -, hi⟩ := List.mem_filterMap.mp hw
  exact List.mem_of_getElem? hi), ⟨tyX4, tyX4_ok⟩, nmX4, lw_g_in (i := 142) (by decide +kernel) (by decide +kernel), lw_g_in (i := 72) (by decide +kernel) (by decide +kernel)⟩
theorem cf_6 : CF (RX5, TX5, 3) := ⟨fun w hw => (by
  have e : u_ws RX5 TX5 3 = [909, 911, 913].filterMap (fun i => lw_tbl[i]?) := by decide +kernel
  have g : (u_ws RX5 TX5 3).all goodWord = true := by decide +kernel
  have hw : w ∈ u_ws RX5 TX5 3 := hw
  refine List.mem_filter.mpr ⟨?_, List.all_eq_true.mp g w hw⟩
  rw [e] at hw
  obtain ⟨i, -, hi⟩ := List.mem_filterMap.mp hw
  exact List.mem_of_getElem? hi), ⟨tyX5, tyX5_ok⟩, nmX5, lw_g_in (i := 899) (by decide +kernel) (by decide +kernel), lw_g_in (i := 97) (by decide +kernel) (by decide +kernel)⟩
theorem cf_7 : CF (RX6, TX6, 1) := ⟨fun w hw => (by
  have e : u_ws RX6 TX6 1 = [247].filterMap (fun i => lw_tbl[i]?) := by decide +kernel
  have g : (u_ws RX6 TX6 1).all goodWord = true := by decide +kernel
  have hw : w ∈ u_ws RX6 TX6 1 := hw
  refine List.mem_filter.mpr ⟨?_, List.all_eq_true.mp g w hw⟩
  rw [e] at hw
  obtain ⟨i, -, hi⟩ := List.mem_filterMap.mp hw
  exact List.mem_of_getElem? hi), ⟨tyX6, tyX6_ok⟩, nmX6, lw_g_in (i := 239) (by decide +kernel) (by decide +kernel), lw_g_in (i := 77) (by decide +kernel) (by decide +kernel)⟩
theorem cf_8 : CF (RX7, TX7, 4) := ⟨fun w hw => (by
  have e : u_ws RX7 TX7 4 = [955, 957, 959, 961].filterMap (fun i => lw_tbl[i]?) := by decide +kernel
  have g : (u_ws RX7 TX7 4).all goodWord = true := by decide +kernel
  have hw : w ∈ u_ws RX7 TX7 4 := hw
  refine List.mem_filter.mpr ⟨?_, List.all_eq_true.mp g w hw⟩
  rw [e] at hw
  obtain ⟨i, -, hi⟩ := List.mem_filterMap.mp hw
  exact List.mem_of_getElem? hi), ⟨tyX7, tyX7_ok⟩, nmX7, lw_g_in (i := 941) (by decide +kernel) (by decide +kernel), lw_g_in (i := 98) (by decide +kernel) (by decide +kernel)⟩
theorem cf_9 : CF (RX8, TX8, 7) := ⟨fun w hw => (by
  have e : u_ws RX8 TX8 7 = [125, 127, 129, 131, 133, 135, 137].filterMap (fun i => lw_tbl[i]?) := by decide +kernel
  have g : (u_ws RX8 TX8 7).all goodWord = true := by decide +kernel
  have hw : w ∈ u_ws RX8 TX8 7 := hw
  refine List.mem_filter.mpr ⟨?_, List.all_eq_true.mp g w hw⟩
  rw [e] at hw
  obtain ⟨i, -, hi⟩ := List.mem_filterMap.mp hw
  exact List.mem_of_getElem? hi), ⟨tyX8, tyX8_ok⟩, nmX8, lw_g_in (i := 109) (by decide +kernel) (by decide +kernel), lw_g_in (i := 71) (by decide +kernel) (by decide +kernel)⟩
theorem cf_10 : CF (RX9, TX9, 3) := ⟨fun w hw => (by
  have e : u_ws RX9 TX9 3 = [261, 263, 265].filterMap (fun i => lw_tbl[i]?) := by decide +kernel
  have g : (u_ws RX9 TX9 3).all goodWord = true := by decide +kernel
  have hw : w ∈ u_ws RX9 TX9 3 := hw
  refine List.mem_filter.mpr ⟨?_, List.all_eq_true.mp g w hw⟩
  rw [e] at hw
  obtain ⟨i, -, hi⟩ := List.mem_filterMap.mp hw
  exact List.mem_of_getElem? hi), ⟨tyX9, tyX9_ok⟩, nmX9, lw_g_in (i := 251) (by decide +kernel) (by decide +kernel), lw_g_in (i := 78) (by decide +kernel) (by decide +kernel)⟩
theorem cf_11 : CF (RX10, TX10, 4) := ⟨fun w hw => (by
  have e : u_ws RX10 TX10 4 = [159, 161, 163, 165].filterMap (fun i => lw_tbl[i]?) := by decide +kernel
  have g : (u_ws RX10 TX10 4).all goodWord = true := by decide +kernel
  have hw : w ∈ u_ws RX10 TX10 4 := hw
  refine List.mem_filter.mpr ⟨?_, List.all_eq_true.mp g w hw⟩
  rw [e] at hw
  obtain ⟨i, -, hi⟩ := List.mem_filterMap.mp hw
  exact List.mem_of_getElem? hi), ⟨tyX10, tyX10_ok⟩, nmX10, lw_g_in (i := 148) (by decide +kernel) (by decide +kernel), lw_g_in (i := 73) (by decide +kernel) (by decide +kernel)⟩
theorem cf_12 : CF (RX11, TX11, 17) := ⟨fun w hw => (by
  have e : u_ws RX11 TX11 17 = [301, 303, 305, 307, 309, 311, 313, 315, 317, 319, 321, 323, 325, 327, 329, 331, 333].filterMap (fun i => lw_tbl[i]?) := by decide +kernel
  have g : (u_ws RX11 TX11 17).all goodWord = true := by decide +kernel
  have hw : w ∈ u_ws RX11 TX11 17 := hw
  refine List.mem_filter.mpr ⟨?_, List.all_eq_true.mp g w hw⟩
  rw [e] at hw
  obtain ⟨i, -, hi⟩ := List.mem_filterMap.mp hw
  exact List.mem_of_getElem? hi), ⟨tyX11, tyX11_ok⟩, nmX11, lw_g_in (i := 101) (by decide +kernel) (by decide +kernel), lw_g_in (i := 70) (by decide +kernel) (by decide +kernel)⟩
theorem cf_13 : CF (RX12, TX12, 14) := ⟨fun w hw => (by
  have e : u_ws RX12 TX12 14 = [1093, 1095, 1097, 1099, 1101, 1103, 1105, 1107, 1109, 1111, 1113, 1115, 1117, 1119].filterMap (fun i => lw_tbl[i]?) := by decide +kernel
  have g : (u_ws RX12 TX12 14).all goodWord = true := by decide +kernel
  have hw : w ∈ u_ws RX12 TX12 14 := hw
  refine List.mem_filter.mpr ⟨?_, List.all_eq_true.mp g w hw⟩
  rw [e] at hw
  obtain ⟨i, -, hi⟩ := List.mem_filterMap.mp hw
  exact List.mem_of_getElem? hi), ⟨tyX12, tyX12_ok⟩, nmX12, lw_g_in (i := 1063) (by decide +kernel) (by decide +kernel), lw_g_in (i := 81) (by decide +kernel) (by decide +kernel)⟩
theorem cf_14 : CF (RX13, TX13, 8) := ⟨fun w hw => (by
  have e : u_ws RX13 TX13 8 = [1133, 1135, 1137, 1139, 1141, 1188, 1180, 1182].filterMap (fun i => lw_tbl[i]?) := by decide +kernel
  have g : (u_ws RX13 TX13 8).all goodWord = true := by decide +kernel
  have hw : w ∈ u_ws RX13 TX13 8 := hw
  refine List.mem_filter.mpr ⟨?_, List.all_eq_true.mp g w hw⟩
  rw [e] at hw
  obtain ⟨i, -, hi⟩ := List.mem_filterMap.mp hw
  exact List.mem_of_getElem? hi), ⟨tyX13, tyX13_ok⟩, nmX13, lw_g_in (i := 1123) (by decide +kernel) (by decide +kernel), lw_g_in (i := 85) (by decide +kernel) (by decide +kernel)⟩
theorem cf_15 : CF (RX14, TX14, 55) := ⟨fun w hw => (by
  have e : u_ws RX14 TX14 55 = [1247, 1249, 1251, 1253, 1255, 1257, 1259, 1261, 1263, 1265, 1267, 1269, 1271, 1273, 1275, 1277, 1279, 1281, 1283, 1285, 1287, 1289, 1291, 1293, 1295, 1297, 1299, 1301, 1303, 1305, 1307, 1309, 1311, 1313, 1315, 1317, 1319, 1321, 1323, 1325, 1327, 1329, 1331, 1333, 1335, 1337, 1339, 1341, 1343, 1345, 1347, 1349, 1351, 1353, 1355].filterMap (fun i => lw_tbl[i]?) := by decide +kernel
  have g : (u_ws RX14 TX14 55).all goodWord = true := by decide +kernel
  have hw : w ∈ u_ws RX14 TX14 55 := hw
  refine List.mem_filter.mpr ⟨?_, List.all_eq_true.mp g w hw⟩
  rw [e] at hw
  obtain ⟨i, -, hi⟩ := List.mem_filterMap.mp hw
  exact List.mem_of_getElem? hi), ⟨tyX14, tyX14_ok⟩, nmX14, lw_g_in (i := 1056) (by decide +kernel) (by decide +kernel), lw_g_in (i := 80) (by decide +kernel) (by decide +kernel)⟩
theorem cf_all : ∀ (ci : Nat) (q : vw_C), vwCl[ci]? = some q → CF q := by
  intro ci q hq
  match ci, hq with
  | 0, hq => cases hq; exact cf_0
  | 1, hq => cases hq; exact cf_1
  | 2, hq => cases hq; exact cf_2
  | 3, hq => cases hq; exact cf_3
  | 4, hq => cases hq; exact cf_4
  | 5, hq => cases hq; exact cf_5
  | 6, hq => cases hq; exact cf_6
  | 7, hq => cases hq; exact cf_7
  | 8, hq => cases hq; exact cf_8
  | 9, hq => cases hq; exact cf_9
  | 10, hq => cases hq; exact cf_10
  | 11, hq => cases hq; exact cf_11
  | 12, hq => cases hq; exact cf_12
  | 13, hq => cases hq; exact cf_13
  | 14, hq => cases hq; exact cf_14
  | 15, hq => cases hq; exact cf_15
  | n + 16, hq => simp [vwCl] at hq
def FL (own : String) (idx ci k : Nat) (ty : FieldType) (fin nest : Bool) : Prop := ∃ (ref : String) (q : vw_C), vwCl[ci]? = some q ∧ k < q.2.2 ∧ (q.2.1 k).2.2.2 = fin ∧ parseFieldDescriptor (q.2.1 k).2.2.1 = some ty ∧ ((nest = false ∧ Cond.fieldLink own idx ref (q.2.1 k).2.1 (q.2.1 k).2.2.1 ∈ lw_g) ∨ (nest = true ∧ ∃ host, Cond.fieldLinkNest own idx ref (q.2.1 k).2.1 (q.2.1 k).2.2.1 host ∈ lw_n)) ∧ (ref = (q.2.1 k).1 ∨ Cond.sameField ref (q.2.1 k).1 (q.2.1 k).2.1 (q.2.1 k).2.2.1 ∈ lw_g)
theorem fl_X8_9 : FL RX8 9 9 0 (.array (.int)) true false := ⟨"AlmsHouse$Tape", _, rfl, by decide, rfl, by decide +kernel, Or.inl ⟨rfl, lw_g_in (i := 114) (by decide +kernel) (by decide +kernel)⟩, Or.inl rfl⟩
theorem fl_X8_15 : FL RX8 15 9 1 (.int) false false := ⟨"AlmsHouse$Tape", _, rfl, by decide, rfl, by decide +kernel, Or.inl ⟨rfl, lw_g_in (i := 115) (by decide +kernel) (by decide +kernel)⟩, Or.inl rfl⟩
theorem fl_X11_81 : FL RX11 81 9 1 (.int) false false := ⟨"AlmsHouse$Tape", _, rfl, by decide, rfl, by decide +kernel, Or.inl ⟨rfl, lw_g_in (i := 116) (by decide +kernel) (by decide +kernel)⟩, Or.inl rfl⟩
theorem fl_X8_19 : FL RX8 19 9 2 (.int) false false := ⟨"AlmsHouse$Tape", _, rfl, by decide, rfl, by decide +kernel, Or.inl ⟨rfl, lw_g_in (i := 117) (by decide +kernel) (by decide +kernel)⟩, Or.inl rfl⟩
theorem fl_X8_22 : FL RX8 22 9 3 (.int) false false := ⟨"AlmsHouse$Tape", _, rfl, by decide, rfl, by decide +kernel, Or.inl ⟨rfl, lw_g_in (i := 118) (by decide +kernel) (by decide +kernel)⟩, Or.inl rfl⟩
theorem fl_X8_29 : FL RX8 29 9 4 (.int) false false := ⟨"AlmsHouse$Tape", _, rfl, by decide, rfl, by decide +kernel, Or.inl ⟨rfl, lw_g_in (i := 119) (by decide +kernel) (by decide +kernel)⟩, Or.inl rfl⟩
theorem fl_X11_101 : FL RX11 101 9 4 (.int) false false := ⟨"AlmsHouse$Tape", _, rfl, by decide, rfl, by decide +kernel, Or.inl ⟨rfl, lw_g_in (i := 120) (by decide +kernel) (by decide +kernel)⟩, Or.inl rfl⟩
theorem fl_X8_35 : FL RX8 35 9 5 (.int) false false := ⟨"AlmsHouse$Tape", _, rfl, by decide, rfl, by decide +kernel, Or.inl ⟨rfl, lw_g_in (i := 121) (by decide +kernel) (by decide +kernel)⟩, Or.inl rfl⟩
theorem fl_X4_108 : FL RX4 108 9 5 (.int) false false := ⟨"AlmsHouse$Tape", _, rfl, by decide, rfl, by decide +kernel, Or.inl ⟨rfl, lw_g_in (i := 122) (by decide +kernel) (by decide +kernel)⟩, Or.inl rfl⟩
theorem fl_X8_32 : FL RX8 32 9 6 (.int) false false := ⟨"AlmsHouse$Tape", _, rfl, by decide, rfl, by decide +kernel, Or.inl ⟨rfl, lw_g_in (i := 123) (by decide +kernel) (by decide +kernel)⟩, Or.inl rfl⟩
theorem fl_X4_117 : FL RX4 117 9 6 (.int) false false := ⟨"AlmsHouse$Tape", _, rfl, by decide, rfl, by decide +kernel, Or.inl ⟨rfl, lw_g_in (i := 124) (by decide +kernel) (by decide +kernel)⟩, Or.inl rfl⟩
theorem fl_X10_9 : FL RX10 9 11 0 (.array (.int)) true false := ⟨"AlmsHouse$Writer", _, rfl, by decide, rfl, by decide +kernel, Or.inl ⟨rfl, lw_g_in (i := 153) (by decide +kernel) (by decide +kernel)⟩, Or.inl rfl⟩
theorem fl_X4_55 : FL RX4 55 11 0 (.array (.int)) true false := ⟨"AlmsHouse$Writer", _, rfl, by decide, rfl, by decide +kernel, Or.inl ⟨rfl, lw_g_in (i := 154) (by decide +kernel) (by decide +kernel)⟩, Or.inl rfl⟩
theorem fl_X10_15 : FL RX10 15 11 1 (.array (.int)) true false := ⟨"AlmsHouse$Writer", _, rfl, by decide, rfl, by decide +kernel, Or.inl ⟨rfl, lw_g_in (i := 155) (by decide +kernel) (by decide +kernel)⟩, Or.inl rfl⟩
theorem fl_X10_18 : FL RX10 18 11 2 (.int) false false := ⟨"AlmsHouse$Writer", _, rfl, by decide, rfl, by decide +kernel, Or.inl ⟨rfl, lw_g_in (i := 156) (by decide +kernel) (by decide +kernel)⟩, Or.inl rfl⟩
theorem fl_X4_120 : FL RX4 120 11 2 (.int) false false := ⟨"AlmsHouse$Writer", _, rfl, by decide, rfl, by decide +kernel, Or.inl ⟨rfl, lw_g_in (i := 157) (by decide +kernel) (by decide +kernel)⟩, Or.inl rfl⟩
theorem fl_X10_22 : FL RX10 22 11 3 (.int) false false := ⟨"AlmsHouse$Writer", _, rfl, by decide, rfl, by decide +kernel, Or.inl ⟨rfl, lw_g_in (i := 158) (by decide +kernel) (by decide +kernel)⟩, Or.inl rfl⟩
theorem fl_X4_28 : FL RX4 28 5 0 (.object "AlmsHouse$Tape") true false := ⟨"AlmsHouse$Reader", _, rfl, by decide, rfl, by decide +kernel, Or.inl ⟨rfl, lw_g_in (i := 168) (by decide +kernel) (by decide +kernel)⟩, Or.inl rfl⟩
theorem fl_X4_12 : FL RX4 12 5 1 (.object "AlmsHouse$Writer") true false := ⟨"AlmsHouse$Reader", _, rfl, by decide, rfl, by decide +kernel, Or.inl ⟨rfl, lw_g_in (i := 169) (by decide +kernel) (by decide +kernel)⟩, Or.inl rfl⟩
theorem fl_X4_18 : FL RX4 18 5 2 (.array (.int)) true false := ⟨"AlmsHouse$Reader", _, rfl, by decide, rfl, by decide +kernel, Or.inl ⟨rfl, lw_g_in (i := 170) (by decide +kernel) (by decide +kernel)⟩, Or.inl rfl⟩
theorem fl_X4_22 : FL RX4 22 5 3 (.array (.int)) true false := ⟨"AlmsHouse$Reader", _, rfl, by decide, rfl, by decide +kernel, Or.inl ⟨rfl, lw_g_in (i := 171) (by decide +kernel) (by decide +kernel)⟩, Or.inl rfl⟩
theorem fl_X4_25 : FL RX4 25 5 4 (.array (.int)) true false := ⟨"AlmsHouse$Reader", _, rfl, by decide, rfl, by decide +kernel, Or.inl ⟨rfl, lw_g_in (i := 172) (by decide +kernel) (by decide +kernel)⟩, Or.inl rfl⟩
theorem fl_X4_52 : FL RX4 52 5 5 (.int) false false := ⟨"AlmsHouse$Reader", _, rfl, by decide, rfl, by decide +kernel, Or.inl ⟨rfl, lw_g_in (i := 173) (by decide +kernel) (by decide +kernel)⟩, Or.inl rfl⟩
theorem fl_X11_274 : FL RX11 274 5 5 (.int) false false := ⟨"AlmsHouse$Reader", _, rfl, by decide, rfl, by decide +kernel, Or.inl ⟨rfl, lw_g_in (i := 174) (by decide +kernel) (by decide +kernel)⟩, Or.inl rfl⟩
theorem fl_X4_48 : FL RX4 48 5 6 (.int) false false := ⟨"AlmsHouse$Reader", _, rfl, by decide, rfl, by decide +kernel, Or.inl ⟨rfl, lw_g_in (i := 175) (by decide +kernel) (by decide +kernel)⟩, Or.inl rfl⟩
theorem fl_X4_65 : FL RX4 65 5 7 (.int) false false := ⟨"AlmsHouse$Reader", _, rfl, by decide, rfl, by decide +kernel, Or.inl ⟨rfl, lw_g_in (i := 176) (by decide +kernel) (by decide +kernel)⟩, Or.inl rfl⟩
theorem fl_X4_114 : FL RX4 114 5 8 (.int) false false := ⟨"AlmsHouse$Reader", _, rfl, by decide, rfl, by decide +kernel, Or.inl ⟨rfl, lw_g_in (i := 177) (by decide +kernel) (by decide +kernel)⟩, Or.inl rfl⟩
theorem fl_X4_68 : FL RX4 68 5 9 (.int) false false := ⟨"AlmsHouse$Reader", _, rfl, by decide, rfl, by decide +kernel, Or.inl ⟨rfl, lw_g_in (i := 178) (by decide +kernel) (by decide +kernel)⟩, Or.inl rfl⟩
theorem fl_X4_71 : FL RX4 71 5 10 (.int) false false := ⟨"AlmsHouse$Reader", _, rfl, by decide, rfl, by decide +kernel, Or.inl ⟨rfl, lw_g_in (i := 179) (by decide +kernel) (by decide +kernel)⟩, Or.inl rfl⟩
theorem fl_X4_126 : FL RX4 126 5 11 (.int) false false := ⟨"AlmsHouse$Reader", _, rfl, by decide, rfl, by decide +kernel, Or.inl ⟨rfl, lw_g_in (i := 180) (by decide +kernel) (by decide +kernel)⟩, Or.inl rfl⟩
theorem fl_X4_132 : FL RX4 132 5 12 (.int) false false := ⟨"AlmsHouse$Reader", _, rfl, by decide, rfl, by decide +kernel, Or.inl ⟨rfl, lw_g_in (i := 181) (by decide +kernel) (by decide +kernel)⟩, Or.inl rfl⟩
theorem fl_X4_155 : FL RX4 155 5 13 (.int) false false := ⟨"AlmsHouse$Reader", _, rfl, by decide, rfl, by decide +kernel, Or.inl ⟨rfl, lw_g_in (i := 182) (by decide +kernel) (by decide +kernel)⟩, Or.inl rfl⟩
theorem fl_Jx4a65c_9 : FL RJx4a65c 9 0 1 (.array (.object "java/lang/Object")) false false := ⟨"java/util/ArrayList", _, rfl, by decide, rfl, by decide +kernel, Or.inl ⟨rfl, lw_g_in (i := 226) (by decide +kernel) (by decide +kernel)⟩, Or.inl rfl⟩
theorem fl_Jx4a65c_48 : FL RJx4a65c 48 0 2 (.int) false false := ⟨"java/util/ArrayList", _, rfl, by decide, rfl, by decide +kernel, Or.inl ⟨rfl, lw_g_in (i := 227) (by decide +kernel) (by decide +kernel)⟩, Or.inl rfl⟩
theorem fl_Jxc12de_7 : FL RJxc12de 7 0 0 (.int) false false := ⟨"java/util/AbstractList", _, rfl, by decide, rfl, by decide +kernel, Or.inl ⟨rfl, lw_g_in (i := 228) (by decide +kernel) (by decide +kernel)⟩, Or.inl rfl⟩
theorem fl_Jx4a65c_63 : FL RJx4a65c 63 0 0 (.int) false false := ⟨"java/util/ArrayList", _, rfl, by decide, rfl, by decide +kernel, Or.inl ⟨rfl, lw_g_in (i := 229) (by decide +kernel) (by decide +kernel)⟩, Or.inr (lw_g_in (i := 230) (by decide +kernel) (by decide +kernel))⟩
theorem fl_X6_11 : FL RX6 11 7 0 (.array (.object "AlmsHouse$Change")) true false := ⟨"AlmsHouse$Standing", _, rfl, by decide, rfl, by decide +kernel, Or.inl ⟨rfl, lw_g_in (i := 246) (by decide +kernel) (by decide +kernel)⟩, Or.inl rfl⟩
theorem fl_X9_9 : FL RX9 9 10 0 (.array (.boolean)) true false := ⟨"AlmsHouse$Trustees", _, rfl, by decide, rfl, by decide +kernel, Or.inl ⟨rfl, lw_g_in (i := 256) (by decide +kernel) (by decide +kernel)⟩, Or.inl rfl⟩
theorem fl_X9_19 : FL RX9 19 10 1 (.int) false false := ⟨"AlmsHouse$Trustees", _, rfl, by decide, rfl, by decide +kernel, Or.inl ⟨rfl, lw_g_in (i := 257) (by decide +kernel) (by decide +kernel)⟩, Or.inl rfl⟩
theorem fl_X11_201 : FL RX11 201 10 1 (.int) false false := ⟨"AlmsHouse$Trustees", _, rfl, by decide, rfl, by decide +kernel, Or.inl ⟨rfl, lw_g_in (i := 258) (by decide +kernel) (by decide +kernel)⟩, Or.inl rfl⟩
theorem fl_X9_15 : FL RX9 15 10 2 (.int) false false := ⟨"AlmsHouse$Trustees", _, rfl, by decide, rfl, by decide +kernel, Or.inl ⟨rfl, lw_g_in (i := 259) (by decide +kernel) (by decide +kernel)⟩, Or.inl rfl⟩
theorem fl_X11_256 : FL RX11 256 10 2 (.int) false false := ⟨"AlmsHouse$Trustees", _, rfl, by decide, rfl, by decide +kernel, Or.inl ⟨rfl, lw_g_in (i := 260) (by decide +kernel) (by decide +kernel)⟩, Or.inl rfl⟩
theorem fl_X1_16 : FL RX1 16 2 0 (.int) false false := ⟨"AlmsHouse$Chest", _, rfl, by decide, rfl, by decide +kernel, Or.inl ⟨rfl, lw_g_in (i := 275) (by decide +kernel) (by decide +kernel)⟩, Or.inl rfl⟩
theorem fl_X11_259 : FL RX11 259 2 0 (.int) false false := ⟨"AlmsHouse$Chest", _, rfl, by decide, rfl, by decide +kernel, Or.inl ⟨rfl, lw_g_in (i := 276) (by decide +kernel) (by decide +kernel)⟩, Or.inl rfl⟩
theorem fl_X1_9 : FL RX1 9 2 1 (.long) false false := ⟨"AlmsHouse$Chest", _, rfl, by decide, rfl, by decide +kernel, Or.inl ⟨rfl, lw_g_in (i := 277) (by decide +kernel) (by decide +kernel)⟩, Or.inl rfl⟩
theorem fl_X11_262 : FL RX11 262 2 1 (.long) false false := ⟨"AlmsHouse$Chest", _, rfl, by decide, rfl, by decide +kernel, Or.inl ⟨rfl, lw_g_in (i := 278) (by decide +kernel) (by decide +kernel)⟩, Or.inl rfl⟩
theorem fl_X11_12 : FL RX11 12 12 0 (.object "AlmsHouse$Tape") true false := ⟨"AlmsHouse", _, rfl, by decide, rfl, by decide +kernel, Or.inl ⟨rfl, lw_g_in (i := 284) (by decide +kernel) (by decide +kernel)⟩, Or.inl rfl⟩
theorem fl_X11_23 : FL RX11 23 12 1 (.object "AlmsHouse$Reader") true false := ⟨"AlmsHouse", _, rfl, by decide, rfl, by decide +kernel, Or.inl ⟨rfl, lw_g_in (i := 285) (by decide +kernel) (by decide +kernel)⟩, Or.inl rfl⟩
theorem fl_X11_30 : FL RX11 30 12 2 (.object "java/util/ArrayList") true false := ⟨"AlmsHouse", _, rfl, by decide, rfl, by decide +kernel, Or.inl ⟨rfl, lw_g_in (i := 286) (by decide +kernel) (by decide +kernel)⟩, Or.inl rfl⟩
theorem fl_X11_37 : FL RX11 37 12 3 (.object "AlmsHouse$Standing") true false := ⟨"AlmsHouse", _, rfl, by decide, rfl, by decide +kernel, Or.inl ⟨rfl, lw_g_in (i := 287) (by decide +kernel) (by decide +kernel)⟩, Or.inl rfl⟩
theorem fl_X11_41 : FL RX11 41 12 4 (.object "java/util/ArrayList") true false := ⟨"AlmsHouse", _, rfl, by decide, rfl, by decide +kernel, Or.inl ⟨rfl, lw_g_in (i := 288) (by decide +kernel) (by decide +kernel)⟩, Or.inl rfl⟩
theorem fl_X11_44 : FL RX11 44 12 5 (.object "java/util/ArrayList") true false := ⟨"AlmsHouse", _, rfl, by decide, rfl, by decide +kernel, Or.inl ⟨rfl, lw_g_in (i := 289) (by decide +kernel) (by decide +kernel)⟩, Or.inl rfl⟩
theorem fl_X11_47 : FL RX11 47 12 6 (.object "java/util/ArrayList") true false := ⟨"AlmsHouse", _, rfl, by decide, rfl, by decide +kernel, Or.inl ⟨rfl, lw_g_in (i := 290) (by decide +kernel) (by decide +kernel)⟩, Or.inl rfl⟩
theorem fl_X11_53 : FL RX11 53 12 7 (.object "AlmsHouse$Trustees") true false := ⟨"AlmsHouse", _, rfl, by decide, rfl, by decide +kernel, Or.inl ⟨rfl, lw_g_in (i := 291) (by decide +kernel) (by decide +kernel)⟩, Or.inl rfl⟩
theorem fl_X11_57 : FL RX11 57 12 8 (.object "java/util/ArrayList") true false := ⟨"AlmsHouse", _, rfl, by decide, rfl, by decide +kernel, Or.inl ⟨rfl, lw_g_in (i := 292) (by decide +kernel) (by decide +kernel)⟩, Or.inl rfl⟩
theorem fl_X11_63 : FL RX11 63 12 9 (.object "AlmsHouse$Chest") true false := ⟨"AlmsHouse", _, rfl, by decide, rfl, by decide +kernel, Or.inl ⟨rfl, lw_g_in (i := 293) (by decide +kernel) (by decide +kernel)⟩, Or.inl rfl⟩
theorem fl_X11_71 : FL RX11 71 12 10 (.int) false false := ⟨"AlmsHouse", _, rfl, by decide, rfl, by decide +kernel, Or.inl ⟨rfl, lw_g_in (i := 294) (by decide +kernel) (by decide +kernel)⟩, Or.inl rfl⟩
theorem fl_X11_107 : FL RX11 107 12 11 (.int) false false := ⟨"AlmsHouse", _, rfl, by decide, rfl, by decide +kernel, Or.inl ⟨rfl, lw_g_in (i := 295) (by decide +kernel) (by decide +kernel)⟩, Or.inl rfl⟩
theorem fl_X11_67 : FL RX11 67 12 12 (.int) false false := ⟨"AlmsHouse", _, rfl, by decide, rfl, by decide +kernel, Or.inl ⟨rfl, lw_g_in (i := 296) (by decide +kernel) (by decide +kernel)⟩, Or.inl rfl⟩
theorem fl_X11_135 : FL RX11 135 12 13 (.int) false false := ⟨"AlmsHouse", _, rfl, by decide, rfl, by decide +kernel, Or.inl ⟨rfl, lw_g_in (i := 297) (by decide +kernel) (by decide +kernel)⟩, Or.inl rfl⟩
theorem fl_X11_114 : FL RX11 114 12 14 (.int) false false := ⟨"AlmsHouse", _, rfl, by decide, rfl, by decide +kernel, Or.inl ⟨rfl, lw_g_in (i := 298) (by decide +kernel) (by decide +kernel)⟩, Or.inl rfl⟩
theorem fl_X11_98 : FL RX11 98 12 15 (.int) false false := ⟨"AlmsHouse", _, rfl, by decide, rfl, by decide +kernel, Or.inl ⟨rfl, lw_g_in (i := 299) (by decide +kernel) (by decide +kernel)⟩, Or.inl rfl⟩
theorem fl_X11_104 : FL RX11 104 12 16 (.int) false false := ⟨"AlmsHouse", _, rfl, by decide, rfl, by decide +kernel, Or.inl ⟨rfl, lw_g_in (i := 300) (by decide +kernel) (by decide +kernel)⟩, Or.inl rfl⟩
theorem fl_X0_9 : FL RX0 9 1 0 (.int) true false := ⟨"AlmsHouse$Change", _, rfl, by decide, rfl, by decide +kernel, Or.inl ⟨rfl, lw_g_in (i := 613) (by decide +kernel) (by decide +kernel)⟩, Or.inl rfl⟩
theorem fl_X11_125 : FL RX11 125 1 0 (.int) true false := ⟨"AlmsHouse$Change", _, rfl, by decide, rfl, by decide +kernel, Or.inl ⟨rfl, lw_g_in (i := 614) (by decide +kernel) (by decide +kernel)⟩, Or.inl rfl⟩
theorem fl_X0_15 : FL RX0 15 1 1 (.int) true false := ⟨"AlmsHouse$Change", _, rfl, by decide, rfl, by decide +kernel, Or.inl ⟨rfl, lw_g_in (i := 615) (by decide +kernel) (by decide +kernel)⟩, Or.inl rfl⟩
theorem fl_X6_27 : FL RX6 27 1 1 (.int) true false := ⟨"AlmsHouse$Change", _, rfl, by decide, rfl, by decide +kernel, Or.inl ⟨rfl, lw_g_in (i := 616) (by decide +kernel) (by decide +kernel)⟩, Or.inl rfl⟩
theorem fl_X0_18 : FL RX0 18 1 2 (.int) true false := ⟨"AlmsHouse$Change", _, rfl, by decide, rfl, by decide +kernel, Or.inl ⟨rfl, lw_g_in (i := 617) (by decide +kernel) (by decide +kernel)⟩, Or.inl rfl⟩
theorem fl_X6_31 : FL RX6 31 1 2 (.int) true false := ⟨"AlmsHouse$Change", _, rfl, by decide, rfl, by decide +kernel, Or.inl ⟨rfl, lw_g_in (i := 618) (by decide +kernel) (by decide +kernel)⟩, Or.inl rfl⟩
theorem fl_X0_21 : FL RX0 21 1 3 (.int) true false := ⟨"AlmsHouse$Change", _, rfl, by decide, rfl, by decide +kernel, Or.inl ⟨rfl, lw_g_in (i := 619) (by decide +kernel) (by decide +kernel)⟩, Or.inl rfl⟩
theorem fl_X6_38 : FL RX6 38 1 3 (.int) true false := ⟨"AlmsHouse$Change", _, rfl, by decide, rfl, by decide +kernel, Or.inl ⟨rfl, lw_g_in (i := 620) (by decide +kernel) (by decide +kernel)⟩, Or.inl rfl⟩
theorem fl_X0_24 : FL RX0 24 1 4 (.int) true false := ⟨"AlmsHouse$Change", _, rfl, by decide, rfl, by decide +kernel, Or.inl ⟨rfl, lw_g_in (i := 621) (by decide +kernel) (by decide +kernel)⟩, Or.inl rfl⟩
theorem fl_X6_67 : FL RX6 67 1 4 (.int) true false := ⟨"AlmsHouse$Change", _, rfl, by decide, rfl, by decide +kernel, Or.inl ⟨rfl, lw_g_in (i := 622) (by decide +kernel) (by decide +kernel)⟩, Or.inl rfl⟩
theorem fl_X0_27 : FL RX0 27 1 5 (.array (.int)) true false := ⟨"AlmsHouse$Change", _, rfl, by decide, rfl, by decide +kernel, Or.inl ⟨rfl, lw_g_in (i := 623) (by decide +kernel) (by decide +kernel)⟩, Or.inl rfl⟩
theorem fl_X3_26 : FL RX3 26 4 0 (.int) true false := ⟨"AlmsHouse$Person", _, rfl, by decide, rfl, by decide +kernel, Or.inl ⟨rfl, lw_g_in (i := 757) (by decide +kernel) (by decide +kernel)⟩, Or.inl rfl⟩
theorem fl_X3_29 : FL RX3 29 4 1 (.int) true false := ⟨"AlmsHouse$Person", _, rfl, by decide, rfl, by decide +kernel, Or.inl ⟨rfl, lw_g_in (i := 758) (by decide +kernel) (by decide +kernel)⟩, Or.inl rfl⟩
theorem fl_X3_32 : FL RX3 32 4 2 (.boolean) true false := ⟨"AlmsHouse$Person", _, rfl, by decide, rfl, by decide +kernel, Or.inl ⟨rfl, lw_g_in (i := 759) (by decide +kernel) (by decide +kernel)⟩, Or.inl rfl⟩
theorem fl_X3_36 : FL RX3 36 4 3 (.int) true false := ⟨"AlmsHouse$Person", _, rfl, by decide, rfl, by decide +kernel, Or.inl ⟨rfl, lw_g_in (i := 760) (by decide +kernel) (by decide +kernel)⟩, Or.inl rfl⟩
theorem fl_X6_49 : FL RX6 49 4 3 (.int) true false := ⟨"AlmsHouse$Person", _, rfl, by decide, rfl, by decide +kernel, Or.inl ⟨rfl, lw_g_in (i := 761) (by decide +kernel) (by decide +kernel)⟩, Or.inl rfl⟩
theorem fl_X3_9 : FL RX3 9 4 4 (.array (.int)) true false := ⟨"AlmsHouse$Person", _, rfl, by decide, rfl, by decide +kernel, Or.inl ⟨rfl, lw_g_in (i := 762) (by decide +kernel) (by decide +kernel)⟩, Or.inl rfl⟩
theorem fl_X3_15 : FL RX3 15 4 5 (.array (.int)) true false := ⟨"AlmsHouse$Person", _, rfl, by decide, rfl, by decide +kernel, Or.inl ⟨rfl, lw_g_in (i := 763) (by decide +kernel) (by decide +kernel)⟩, Or.inl rfl⟩
theorem fl_X3_39 : FL RX3 39 4 6 (.int) false false := ⟨"AlmsHouse$Person", _, rfl, by decide, rfl, by decide +kernel, Or.inl ⟨rfl, lw_g_in (i := 764) (by decide +kernel) (by decide +kernel)⟩, Or.inl rfl⟩
theorem fl_X11_154 : FL RX11 154 4 6 (.int) false false := ⟨"AlmsHouse$Person", _, rfl, by decide, rfl, by decide +kernel, Or.inl ⟨rfl, lw_g_in (i := 765) (by decide +kernel) (by decide +kernel)⟩, Or.inl rfl⟩
theorem fl_X3_19 : FL RX3 19 4 7 (.int) false false := ⟨"AlmsHouse$Person", _, rfl, by decide, rfl, by decide +kernel, Or.inl ⟨rfl, lw_g_in (i := 766) (by decide +kernel) (by decide +kernel)⟩, Or.inl rfl⟩
theorem fl_X6_54 : FL RX6 54 4 7 (.int) false false := ⟨"AlmsHouse$Person", _, rfl, by decide, rfl, by decide +kernel, Or.inl ⟨rfl, lw_g_in (i := 767) (by decide +kernel) (by decide +kernel)⟩, Or.inl rfl⟩
theorem fl_X11_160 : FL RX11 160 4 7 (.int) false false := ⟨"AlmsHouse$Person", _, rfl, by decide, rfl, by decide +kernel, Or.inl ⟨rfl, lw_g_in (i := 768) (by decide +kernel) (by decide +kernel)⟩, Or.inl rfl⟩
theorem fl_X3_23 : FL RX3 23 4 8 (.int) false false := ⟨"AlmsHouse$Person", _, rfl, by decide, rfl, by decide +kernel, Or.inl ⟨rfl, lw_g_in (i := 769) (by decide +kernel) (by decide +kernel)⟩, Or.inl rfl⟩
theorem fl_X11_164 : FL RX11 164 4 8 (.int) false false := ⟨"AlmsHouse$Person", _, rfl, by decide, rfl, by decide +kernel, Or.inl ⟨rfl, lw_g_in (i := 770) (by decide +kernel) (by decide +kernel)⟩, Or.inl rfl⟩
theorem fl_X11_247 : FL RX11 247 4 9 (.int) false false := ⟨"AlmsHouse$Person", _, rfl, by decide, rfl, by decide +kernel, Or.inl ⟨rfl, lw_g_in (i := 771) (by decide +kernel) (by decide +kernel)⟩, Or.inl rfl⟩
theorem fl_X11_250 : FL RX11 250 4 10 (.int) false false := ⟨"AlmsHouse$Person", _, rfl, by decide, rfl, by decide +kernel, Or.inl ⟨rfl, lw_g_in (i := 772) (by decide +kernel) (by decide +kernel)⟩, Or.inl rfl⟩
theorem fl_X5_15 : FL RX5 15 6 0 (.int) true false := ⟨"AlmsHouse$Room", _, rfl, by decide, rfl, by decide +kernel, Or.inl ⟨rfl, lw_g_in (i := 904) (by decide +kernel) (by decide +kernel)⟩, Or.inl rfl⟩
theorem fl_X11_214 : FL RX11 214 6 0 (.int) true false := ⟨"AlmsHouse$Room", _, rfl, by decide, rfl, by decide +kernel, Or.inl ⟨rfl, lw_g_in (i := 905) (by decide +kernel) (by decide +kernel)⟩, Or.inl rfl⟩
theorem fl_X11_207 : FL RX11 207 6 1 (.object "AlmsHouse$Stay") false false := ⟨"AlmsHouse$Room", _, rfl, by decide, rfl, by decide +kernel, Or.inl ⟨rfl, lw_g_in (i := 906) (by decide +kernel) (by decide +kernel)⟩, Or.inl rfl⟩
theorem fl_X5_9 : FL RX5 9 6 2 (.int) false false := ⟨"AlmsHouse$Room", _, rfl, by decide, rfl, by decide +kernel, Or.inl ⟨rfl, lw_g_in (i := 907) (by decide +kernel) (by decide +kernel)⟩, Or.inl rfl⟩
theorem fl_X11_222 : FL RX11 222 6 2 (.int) false false := ⟨"AlmsHouse$Room", _, rfl, by decide, rfl, by decide +kernel, Or.inl ⟨rfl, lw_g_in (i := 908) (by decide +kernel) (by decide +kernel)⟩, Or.inl rfl⟩
theorem fl_X7_16 : FL RX7 16 8 0 (.int) true false := ⟨"AlmsHouse$Stay", _, rfl, by decide, rfl, by decide +kernel, Or.inl ⟨rfl, lw_g_in (i := 947) (by decide +kernel) (by decide +kernel)⟩, Or.inl rfl⟩
theorem fl_X11_233 : FL RX11 233 8 0 (.int) true false := ⟨"AlmsHouse$Stay", _, rfl, by decide, rfl, by decide +kernel, Or.inl ⟨rfl, lw_g_in (i := 948) (by decide +kernel) (by decide +kernel)⟩, Or.inl rfl⟩
theorem fl_X7_19 : FL RX7 19 8 1 (.int) true false := ⟨"AlmsHouse$Stay", _, rfl, by decide, rfl, by decide +kernel, Or.inl ⟨rfl, lw_g_in (i := 949) (by decide +kernel) (by decide +kernel)⟩, Or.inl rfl⟩
theorem fl_X11_227 : FL RX11 227 8 1 (.int) true false := ⟨"AlmsHouse$Stay", _, rfl, by decide, rfl, by decide +kernel, Or.inl ⟨rfl, lw_g_in (i := 950) (by decide +kernel) (by decide +kernel)⟩, Or.inl rfl⟩
theorem fl_X7_22 : FL RX7 22 8 2 (.int) true false := ⟨"AlmsHouse$Stay", _, rfl, by decide, rfl, by decide +kernel, Or.inl ⟨rfl, lw_g_in (i := 951) (by decide +kernel) (by decide +kernel)⟩, Or.inl rfl⟩
theorem fl_X11_230 : FL RX11 230 8 2 (.int) true false := ⟨"AlmsHouse$Stay", _, rfl, by decide, rfl, by decide +kernel, Or.inl ⟨rfl, lw_g_in (i := 952) (by decide +kernel) (by decide +kernel)⟩, Or.inl rfl⟩
theorem fl_X7_10 : FL RX7 10 8 3 (.int) false false := ⟨"AlmsHouse$Stay", _, rfl, by decide, rfl, by decide +kernel, Or.inl ⟨rfl, lw_g_in (i := 953) (by decide +kernel) (by decide +kernel)⟩, Or.inl rfl⟩
theorem fl_X11_234 : FL RX11 234 8 3 (.int) false false := ⟨"AlmsHouse$Stay", _, rfl, by decide, rfl, by decide +kernel, Or.inl ⟨rfl, lw_g_in (i := 954) (by decide +kernel) (by decide +kernel)⟩, Or.inl rfl⟩
theorem fl_X2_7 : FL RX2 7 3 0 (.int) true false := ⟨"AlmsHouse$Land", _, rfl, by decide, rfl, by decide +kernel, Or.inl ⟨rfl, lw_g_in (i := 990) (by decide +kernel) (by decide +kernel)⟩, Or.inl rfl⟩
theorem fl_X11_292 : FL RX11 292 3 0 (.int) true false := ⟨"AlmsHouse$Land", _, rfl, by decide, rfl, by decide +kernel, Or.inl ⟨rfl, lw_g_in (i := 991) (by decide +kernel) (by decide +kernel)⟩, Or.inl rfl⟩
theorem fl_X2_13 : FL RX2 13 3 1 (.int) true false := ⟨"AlmsHouse$Land", _, rfl, by decide, rfl, by decide +kernel, Or.inl ⟨rfl, lw_g_in (i := 992) (by decide +kernel) (by decide +kernel)⟩, Or.inl rfl⟩
theorem fl_X2_16 : FL RX2 16 3 2 (.int) true false := ⟨"AlmsHouse$Land", _, rfl, by decide, rfl, by decide +kernel, Or.inl ⟨rfl, lw_g_in (i := 993) (by decide +kernel) (by decide +kernel)⟩, Or.inl rfl⟩
theorem fl_X14_289 : FL RX14 289 13 0 (.int) false true := ⟨"AlmsHouseModel$Scheme", _, rfl, by decide, rfl, by decide +kernel, Or.inr ⟨rfl, "AlmsHouseModel", lw_n_in (i := 1068) (by decide +kernel) (by decide +kernel)⟩, Or.inl rfl⟩
theorem fl_X14_292 : FL RX14 292 13 1 (.int) false true := ⟨"AlmsHouseModel$Scheme", _, rfl, by decide, rfl, by decide +kernel, Or.inr ⟨rfl, "AlmsHouseModel", lw_n_in (i := 1069) (by decide +kernel) (by decide +kernel)⟩, Or.inl rfl⟩
theorem fl_X14_208 : FL RX14 208 13 2 (.int) false true := ⟨"AlmsHouseModel$Scheme", _, rfl, by decide, rfl, by decide +kernel, Or.inr ⟨rfl, "AlmsHouseModel", lw_n_in (i := 1070) (by decide +kernel) (by decide +kernel)⟩, Or.inl rfl⟩
theorem fl_X12_42 : FL RX12 42 13 3 (.int) false false := ⟨"AlmsHouseModel$Scheme", _, rfl, by decide, rfl, by decide +kernel, Or.inl ⟨rfl, lw_g_in (i := 1071) (by decide +kernel) (by decide +kernel)⟩, Or.inl rfl⟩
theorem fl_X14_211 : FL RX14 211 13 3 (.int) false true := ⟨"AlmsHouseModel$Scheme", _, rfl, by decide, rfl, by decide +kernel, Or.inr ⟨rfl, "AlmsHouseModel", lw_n_in (i := 1072) (by decide +kernel) (by decide +kernel)⟩, Or.inl rfl⟩
theorem fl_X12_9 : FL RX12 9 13 4 (.array (.int)) true false := ⟨"AlmsHouseModel$Scheme", _, rfl, by decide, rfl, by decide +kernel, Or.inl ⟨rfl, lw_g_in (i := 1073) (by decide +kernel) (by decide +kernel)⟩, Or.inl rfl⟩
theorem fl_X14_223 : FL RX14 223 13 4 (.array (.int)) true true := ⟨"AlmsHouseModel$Scheme", _, rfl, by decide, rfl, by decide +kernel, Or.inr ⟨rfl, "AlmsHouseModel", lw_n_in (i := 1074) (by decide +kernel) (by decide +kernel)⟩, Or.inl rfl⟩
theorem fl_X12_15 : FL RX12 15 13 5 (.array (.int)) true false := ⟨"AlmsHouseModel$Scheme", _, rfl, by decide, rfl, by decide +kernel, Or.inl ⟨rfl, lw_g_in (i := 1075) (by decide +kernel) (by decide +kernel)⟩, Or.inl rfl⟩
theorem fl_X14_226 : FL RX14 226 13 5 (.array (.int)) true true := ⟨"AlmsHouseModel$Scheme", _, rfl, by decide, rfl, by decide +kernel, Or.inr ⟨rfl, "AlmsHouseModel", lw_n_in (i := 1076) (by decide +kernel) (by decide +kernel)⟩, Or.inl rfl⟩
theorem fl_X12_18 : FL RX12 18 13 6 (.array (.int)) true false := ⟨"AlmsHouseModel$Scheme", _, rfl, by decide, rfl, by decide +kernel, Or.inl ⟨rfl, lw_g_in (i := 1077) (by decide +kernel) (by decide +kernel)⟩, Or.inl rfl⟩
theorem fl_X14_235 : FL RX14 235 13 6 (.array (.int)) true true := ⟨"AlmsHouseModel$Scheme", _, rfl, by decide, rfl, by decide +kernel, Or.inr ⟨rfl, "AlmsHouseModel", lw_n_in (i := 1078) (by decide +kernel) (by decide +kernel)⟩, Or.inl rfl⟩
theorem fl_X12_21 : FL RX12 21 13 7 (.array (.int)) true false := ⟨"AlmsHouseModel$Scheme", _, rfl, by decide, rfl, by decide +kernel, Or.inl ⟨rfl, lw_g_in (i := 1079) (by decide +kernel) (by decide +kernel)⟩, Or.inl rfl⟩
theorem fl_X14_242 : FL RX14 242 13 7 (.array (.int)) true true := ⟨"AlmsHouseModel$Scheme", _, rfl, by decide, rfl, by decide +kernel, Or.inr ⟨rfl, "AlmsHouseModel", lw_n_in (i := 1080) (by decide +kernel) (by decide +kernel)⟩, Or.inl rfl⟩
theorem fl_X12_24 : FL RX12 24 13 8 (.array (.int)) true false := ⟨"AlmsHouseModel$Scheme", _, rfl, by decide, rfl, by decide +kernel, Or.inl ⟨rfl, lw_g_in (i := 1081) (by decide +kernel) (by decide +kernel)⟩, Or.inl rfl⟩
theorem fl_X14_228 : FL RX14 228 13 8 (.array (.int)) true true := ⟨"AlmsHouseModel$Scheme", _, rfl, by decide, rfl, by decide +kernel, Or.inr ⟨rfl, "AlmsHouseModel", lw_n_in (i := 1082) (by decide +kernel) (by decide +kernel)⟩, Or.inl rfl⟩
theorem fl_X12_27 : FL RX12 27 13 9 (.array (.int)) true false := ⟨"AlmsHouseModel$Scheme", _, rfl, by decide, rfl, by decide +kernel, Or.inl ⟨rfl, lw_g_in (i := 1083) (by decide +kernel) (by decide +kernel)⟩, Or.inl rfl⟩
theorem fl_X14_327 : FL RX14 327 13 9 (.array (.int)) true true := ⟨"AlmsHouseModel$Scheme", _, rfl, by decide, rfl, by decide +kernel, Or.inr ⟨rfl, "AlmsHouseModel", lw_n_in (i := 1084) (by decide +kernel) (by decide +kernel)⟩, Or.inl rfl⟩
theorem fl_X12_30 : FL RX12 30 13 10 (.array (.int)) true false := ⟨"AlmsHouseModel$Scheme", _, rfl, by decide, rfl, by decide +kernel, Or.inl ⟨rfl, lw_g_in (i := 1085) (by decide +kernel) (by decide +kernel)⟩, Or.inl rfl⟩
theorem fl_X14_330 : FL RX14 330 13 10 (.array (.int)) true true := ⟨"AlmsHouseModel$Scheme", _, rfl, by decide, rfl, by decide +kernel, Or.inr ⟨rfl, "AlmsHouseModel", lw_n_in (i := 1086) (by decide +kernel) (by decide +kernel)⟩, Or.inl rfl⟩
theorem fl_X12_33 : FL RX12 33 13 11 (.array (.int)) true false := ⟨"AlmsHouseModel$Scheme", _, rfl, by decide, rfl, by decide +kernel, Or.inl ⟨rfl, lw_g_in (i := 1087) (by decide +kernel) (by decide +kernel)⟩, Or.inl rfl⟩
theorem fl_X14_333 : FL RX14 333 13 11 (.array (.int)) true true := ⟨"AlmsHouseModel$Scheme", _, rfl, by decide, rfl, by decide +kernel, Or.inr ⟨rfl, "AlmsHouseModel", lw_n_in (i := 1088) (by decide +kernel) (by decide +kernel)⟩, Or.inl rfl⟩
theorem fl_X12_36 : FL RX12 36 13 12 (.array (.int)) true false := ⟨"AlmsHouseModel$Scheme", _, rfl, by decide, rfl, by decide +kernel, Or.inl ⟨rfl, lw_g_in (i := 1089) (by decide +kernel) (by decide +kernel)⟩, Or.inl rfl⟩
theorem fl_X14_267 : FL RX14 267 13 12 (.array (.int)) true true := ⟨"AlmsHouseModel$Scheme", _, rfl, by decide, rfl, by decide +kernel, Or.inr ⟨rfl, "AlmsHouseModel", lw_n_in (i := 1090) (by decide +kernel) (by decide +kernel)⟩, Or.inl rfl⟩
theorem fl_X12_39 : FL RX12 39 13 13 (.array (.int)) true false := ⟨"AlmsHouseModel$Scheme", _, rfl, by decide, rfl, by decide +kernel, Or.inl ⟨rfl, lw_g_in (i := 1091) (by decide +kernel) (by decide +kernel)⟩, Or.inl rfl⟩
theorem fl_X14_264 : FL RX14 264 13 13 (.array (.int)) true true := ⟨"AlmsHouseModel$Scheme", _, rfl, by decide, rfl, by decide +kernel, Or.inr ⟨rfl, "AlmsHouseModel", lw_n_in (i := 1092) (by decide +kernel) (by decide +kernel)⟩, Or.inl rfl⟩
theorem fl_Thr_198 : FL "java/lang/Throwable" 198 14 4 (.object "java/lang/Object") false false := ⟨"java/lang/Throwable", _, rfl, by decide, rfl, by decide +kernel, Or.inl ⟨rfl, lw_g_in (i := 1143) (by decide +kernel) (by decide +kernel)⟩, Or.inl rfl⟩
theorem fl_X14_128 : FL RX14 128 14 6 (.int) false true := ⟨"AlmsHouseModel$Stop", _, rfl, by decide, rfl, by decide +kernel, Or.inr ⟨rfl, "AlmsHouseModel", lw_n_in (i := 1173) (by decide +kernel) (by decide +kernel)⟩, Or.inl rfl⟩
theorem fl_X14_134 : FL RX14 134 14 7 (.int) false true := ⟨"AlmsHouseModel$Stop", _, rfl, by decide, rfl, by decide +kernel, Or.inr ⟨rfl, "AlmsHouseModel", lw_n_in (i := 1174) (by decide +kernel) (by decide +kernel)⟩, Or.inl rfl⟩
theorem fl_Thr_31 : FL "java/lang/Throwable" 31 14 3 (.object "java/lang/String") false false := ⟨"java/lang/Throwable", _, rfl, by decide, rfl, by decide +kernel, Or.inl ⟨rfl, lw_g_in (i := 1176) (by decide +kernel) (by decide +kernel)⟩, Or.inl rfl⟩
theorem fl_Thr_7 : FL "java/lang/Throwable" 7 14 0 (.object "java/lang/Throwable") false false := ⟨"java/lang/Throwable", _, rfl, by decide, rfl, by decide +kernel, Or.inl ⟨rfl, lw_g_in (i := 1177) (by decide +kernel) (by decide +kernel)⟩, Or.inl rfl⟩
theorem fl_Thr_17 : FL "java/lang/Throwable" 17 14 1 (.array (.object "java/lang/StackTraceElement")) false false := ⟨"java/lang/Throwable", _, rfl, by decide, rfl, by decide +kernel, Or.inl ⟨rfl, lw_g_in (i := 1178) (by decide +kernel) (by decide +kernel)⟩, Or.inl rfl⟩
theorem fl_Thr_24 : FL "java/lang/Throwable" 24 14 2 (.object "java/util/List") false false := ⟨"java/lang/Throwable", _, rfl, by decide, rfl, by decide +kernel, Or.inl ⟨rfl, lw_g_in (i := 1179) (by decide +kernel) (by decide +kernel)⟩, Or.inl rfl⟩
theorem fl_X14_112 : FL RX14 112 15 0 (.int) false false := ⟨"AlmsHouseModel", _, rfl, by decide, rfl, by decide +kernel, Or.inl ⟨rfl, lw_g_in (i := 1192) (by decide +kernel) (by decide +kernel)⟩, Or.inl rfl⟩
theorem fl_X14_115 : FL RX14 115 15 1 (.int) false false := ⟨"AlmsHouseModel", _, rfl, by decide, rfl, by decide +kernel, Or.inl ⟨rfl, lw_g_in (i := 1193) (by decide +kernel) (by decide +kernel)⟩, Or.inl rfl⟩
theorem fl_X14_9 : FL RX14 9 15 2 (.int) false false := ⟨"AlmsHouseModel", _, rfl, by decide, rfl, by decide +kernel, Or.inl ⟨rfl, lw_g_in (i := 1194) (by decide +kernel) (by decide +kernel)⟩, Or.inl rfl⟩
theorem fl_X14_280 : FL RX14 280 15 3 (.int) false false := ⟨"AlmsHouseModel", _, rfl, by decide, rfl, by decide +kernel, Or.inl ⟨rfl, lw_g_in (i := 1195) (by decide +kernel) (by decide +kernel)⟩, Or.inl rfl⟩
theorem fl_X14_118 : FL RX14 118 15 4 (.int) false false := ⟨"AlmsHouseModel", _, rfl, by decide, rfl, by decide +kernel, Or.inl ⟨rfl, lw_g_in (i := 1196) (by decide +kernel) (by decide +kernel)⟩, Or.inl rfl⟩
theorem fl_X14_283 : FL RX14 283 15 5 (.int) false false := ⟨"AlmsHouseModel", _, rfl, by decide, rfl, by decide +kernel, Or.inl ⟨rfl, lw_g_in (i := 1197) (by decide +kernel) (by decide +kernel)⟩, Or.inl rfl⟩
theorem fl_X14_15 : FL RX14 15 15 6 (.array (.object "AlmsHouseModel$Scheme")) true false := ⟨"AlmsHouseModel", _, rfl, by decide, rfl, by decide +kernel, Or.inl ⟨rfl, lw_g_in (i := 1198) (by decide +kernel) (by decide +kernel)⟩, Or.inl rfl⟩
theorem fl_X14_20 : FL RX14 20 15 7 (.object "AlmsHouseModel$Scheme") true false := ⟨"AlmsHouseModel", _, rfl, by decide, rfl, by decide +kernel, Or.inl ⟨rfl, lw_g_in (i := 1199) (by decide +kernel) (by decide +kernel)⟩, Or.inl rfl⟩
theorem fl_X14_27 : FL RX14 27 15 8 (.object "AlmsHouseModel$Stop") true false := ⟨"AlmsHouseModel", _, rfl, by decide, rfl, by decide +kernel, Or.inl ⟨rfl, lw_g_in (i := 1200) (by decide +kernel) (by decide +kernel)⟩, Or.inl rfl⟩
theorem fl_X14_31 : FL RX14 31 15 9 (.array (.byte)) true false := ⟨"AlmsHouseModel", _, rfl, by decide, rfl, by decide +kernel, Or.inl ⟨rfl, lw_g_in (i := 1201) (by decide +kernel) (by decide +kernel)⟩, Or.inl rfl⟩
theorem fl_X14_270 : FL RX14 270 15 10 (.int) false false := ⟨"AlmsHouseModel", _, rfl, by decide, rfl, by decide +kernel, Or.inl ⟨rfl, lw_g_in (i := 1202) (by decide +kernel) (by decide +kernel)⟩, Or.inl rfl⟩
theorem fl_X14_135 : FL RX14 135 15 11 (.int) false false := ⟨"AlmsHouseModel", _, rfl, by decide, rfl, by decide +kernel, Or.inl ⟨rfl, lw_g_in (i := 1203) (by decide +kernel) (by decide +kernel)⟩, Or.inl rfl⟩
theorem fl_X14_150 : FL RX14 150 15 12 (.int) false false := ⟨"AlmsHouseModel", _, rfl, by decide, rfl, by decide +kernel, Or.inl ⟨rfl, lw_g_in (i := 1204) (by decide +kernel) (by decide +kernel)⟩, Or.inl rfl⟩
theorem fl_X14_156 : FL RX14 156 15 13 (.int) false false := ⟨"AlmsHouseModel", _, rfl, by decide, rfl, by decide +kernel, Or.inl ⟨rfl, lw_g_in (i := 1205) (by decide +kernel) (by decide +kernel)⟩, Or.inl rfl⟩
theorem fl_X14_131 : FL RX14 131 15 14 (.int) false false := ⟨"AlmsHouseModel", _, rfl, by decide, rfl, by decide +kernel, Or.inl ⟨rfl, lw_g_in (i := 1206) (by decide +kernel) (by decide +kernel)⟩, Or.inl rfl⟩
theorem fl_X14_159 : FL RX14 159 15 15 (.int) false false := ⟨"AlmsHouseModel", _, rfl, by decide, rfl, by decide +kernel, Or.inl ⟨rfl, lw_g_in (i := 1207) (by decide +kernel) (by decide +kernel)⟩, Or.inl rfl⟩
theorem fl_X14_173 : FL RX14 173 15 16 (.int) false false := ⟨"AlmsHouseModel", _, rfl, by decide, rfl, by decide +kernel, Or.inl ⟨rfl, lw_g_in (i := 1208) (by decide +kernel) (by decide +kernel)⟩, Or.inl rfl⟩
theorem fl_X14_214 : FL RX14 214 15 17 (.int) false false := ⟨"AlmsHouseModel", _, rfl, by decide, rfl, by decide +kernel, Or.inl ⟨rfl, lw_g_in (i := 1209) (by decide +kernel) (by decide +kernel)⟩, Or.inl rfl⟩
theorem fl_X14_217 : FL RX14 217 15 18 (.int) false false := ⟨"AlmsHouseModel", _, rfl, by decide, rfl, by decide +kernel, Or.inl ⟨rfl, lw_g_in (i := 1210) (by decide +kernel) (by decide +kernel)⟩, Or.inl rfl⟩
theorem fl_X14_166 : FL RX14 166 15 19 (.long) false false := ⟨"AlmsHouseModel", _, rfl, by decide, rfl, by decide +kernel, Or.inl ⟨rfl, lw_g_in (i := 1211) (by decide +kernel) (by decide +kernel)⟩, Or.inl rfl⟩
theorem fl_X14_295 : FL RX14 295 15 20 (.int) false false := ⟨"AlmsHouseModel", _, rfl, by decide, rfl, by decide +kernel, Or.inl ⟨rfl, lw_g_in (i := 1212) (by decide +kernel) (by decide +kernel)⟩, Or.inl rfl⟩
theorem fl_X14_298 : FL RX14 298 15 21 (.int) false false := ⟨"AlmsHouseModel", _, rfl, by decide, rfl, by decide +kernel, Or.inl ⟨rfl, lw_g_in (i := 1213) (by decide +kernel) (by decide +kernel)⟩, Or.inl rfl⟩
theorem fl_X14_308 : FL RX14 308 15 22 (.int) false false := ⟨"AlmsHouseModel", _, rfl, by decide, rfl, by decide +kernel, Or.inl ⟨rfl, lw_g_in (i := 1214) (by decide +kernel) (by decide +kernel)⟩, Or.inl rfl⟩
theorem fl_X14_312 : FL RX14 312 15 23 (.int) false false := ⟨"AlmsHouseModel", _, rfl, by decide, rfl, by decide +kernel, Or.inl ⟨rfl, lw_g_in (i := 1215) (by decide +kernel) (by decide +kernel)⟩, Or.inl rfl⟩
theorem fl_X14_35 : FL RX14 35 15 24 (.array (.int)) true false := ⟨"AlmsHouseModel", _, rfl, by decide, rfl, by decide +kernel, Or.inl ⟨rfl, lw_g_in (i := 1216) (by decide +kernel) (by decide +kernel)⟩, Or.inl rfl⟩
theorem fl_X14_39 : FL RX14 39 15 25 (.array (.int)) true false := ⟨"AlmsHouseModel", _, rfl, by decide, rfl, by decide +kernel, Or.inl ⟨rfl, lw_g_in (i := 1217) (by decide +kernel) (by decide +kernel)⟩, Or.inl rfl⟩
theorem fl_X14_42 : FL RX14 42 15 26 (.array (.int)) true false := ⟨"AlmsHouseModel", _, rfl, by decide, rfl, by decide +kernel, Or.inl ⟨rfl, lw_g_in (i := 1218) (by decide +kernel) (by decide +kernel)⟩, Or.inl rfl⟩
theorem fl_X14_45 : FL RX14 45 15 27 (.array (.int)) true false := ⟨"AlmsHouseModel", _, rfl, by decide, rfl, by decide +kernel, Or.inl ⟨rfl, lw_g_in (i := 1219) (by decide +kernel) (by decide +kernel)⟩, Or.inl rfl⟩
theorem fl_X14_48 : FL RX14 48 15 28 (.array (.int)) true false := ⟨"AlmsHouseModel", _, rfl, by decide, rfl, by decide +kernel, Or.inl ⟨rfl, lw_g_in (i := 1220) (by decide +kernel) (by decide +kernel)⟩, Or.inl rfl⟩
theorem fl_X14_51 : FL RX14 51 15 29 (.array (.int)) true false := ⟨"AlmsHouseModel", _, rfl, by decide, rfl, by decide +kernel, Or.inl ⟨rfl, lw_g_in (i := 1221) (by decide +kernel) (by decide +kernel)⟩, Or.inl rfl⟩
theorem fl_X14_54 : FL RX14 54 15 30 (.array (.int)) true false := ⟨"AlmsHouseModel", _, rfl, by decide, rfl, by decide +kernel, Or.inl ⟨rfl, lw_g_in (i := 1222) (by decide +kernel) (by decide +kernel)⟩, Or.inl rfl⟩
theorem fl_X14_57 : FL RX14 57 15 31 (.array (.int)) true false := ⟨"AlmsHouseModel", _, rfl, by decide, rfl, by decide +kernel, Or.inl ⟨rfl, lw_g_in (i := 1223) (by decide +kernel) (by decide +kernel)⟩, Or.inl rfl⟩
theorem fl_X14_60 : FL RX14 60 15 32 (.array (.boolean)) true false := ⟨"AlmsHouseModel", _, rfl, by decide, rfl, by decide +kernel, Or.inl ⟨rfl, lw_g_in (i := 1224) (by decide +kernel) (by decide +kernel)⟩, Or.inl rfl⟩
theorem fl_X14_64 : FL RX14 64 15 33 (.array (.int)) true false := ⟨"AlmsHouseModel", _, rfl, by decide, rfl, by decide +kernel, Or.inl ⟨rfl, lw_g_in (i := 1225) (by decide +kernel) (by decide +kernel)⟩, Or.inl rfl⟩
theorem fl_X14_67 : FL RX14 67 15 34 (.array (.int)) true false := ⟨"AlmsHouseModel", _, rfl, by decide, rfl, by decide +kernel, Or.inl ⟨rfl, lw_g_in (i := 1226) (by decide +kernel) (by decide +kernel)⟩, Or.inl rfl⟩
theorem fl_X14_70 : FL RX14 70 15 35 (.array (.boolean)) true false := ⟨"AlmsHouseModel", _, rfl, by decide, rfl, by decide +kernel, Or.inl ⟨rfl, lw_g_in (i := 1227) (by decide +kernel) (by decide +kernel)⟩, Or.inl rfl⟩
theorem fl_X14_355 : FL RX14 355 15 36 (.int) false false := ⟨"AlmsHouseModel", _, rfl, by decide, rfl, by decide +kernel, Or.inl ⟨rfl, lw_g_in (i := 1228) (by decide +kernel) (by decide +kernel)⟩, Or.inl rfl⟩
theorem fl_X14_371 : FL RX14 371 15 37 (.int) false false := ⟨"AlmsHouseModel", _, rfl, by decide, rfl, by decide +kernel, Or.inl ⟨rfl, lw_g_in (i := 1229) (by decide +kernel) (by decide +kernel)⟩, Or.inl rfl⟩
theorem fl_X14_358 : FL RX14 358 15 38 (.int) false false := ⟨"AlmsHouseModel", _, rfl, by decide, rfl, by decide +kernel, Or.inl ⟨rfl, lw_g_in (i := 1230) (by decide +kernel) (by decide +kernel)⟩, Or.inl rfl⟩
theorem fl_X14_73 : FL RX14 73 15 39 (.int) false false := ⟨"AlmsHouseModel", _, rfl, by decide, rfl, by decide +kernel, Or.inl ⟨rfl, lw_g_in (i := 1231) (by decide +kernel) (by decide +kernel)⟩, Or.inl rfl⟩
theorem fl_X14_76 : FL RX14 76 15 40 (.array (.int)) true false := ⟨"AlmsHouseModel", _, rfl, by decide, rfl, by decide +kernel, Or.inl ⟨rfl, lw_g_in (i := 1232) (by decide +kernel) (by decide +kernel)⟩, Or.inl rfl⟩
theorem fl_X14_79 : FL RX14 79 15 41 (.array (.int)) true false := ⟨"AlmsHouseModel", _, rfl, by decide, rfl, by decide +kernel, Or.inl ⟨rfl, lw_g_in (i := 1233) (by decide +kernel) (by decide +kernel)⟩, Or.inl rfl⟩
theorem fl_X14_82 : FL RX14 82 15 42 (.array (.int)) true false := ⟨"AlmsHouseModel", _, rfl, by decide, rfl, by decide +kernel, Or.inl ⟨rfl, lw_g_in (i := 1234) (by decide +kernel) (by decide +kernel)⟩, Or.inl rfl⟩
theorem fl_X14_85 : FL RX14 85 15 43 (.array (.int)) true false := ⟨"AlmsHouseModel", _, rfl, by decide, rfl, by decide +kernel, Or.inl ⟨rfl, lw_g_in (i := 1235) (by decide +kernel) (by decide +kernel)⟩, Or.inl rfl⟩
theorem fl_X14_88 : FL RX14 88 15 44 (.array (.int)) true false := ⟨"AlmsHouseModel", _, rfl, by decide, rfl, by decide +kernel, Or.inl ⟨rfl, lw_g_in (i := 1236) (by decide +kernel) (by decide +kernel)⟩, Or.inl rfl⟩
theorem fl_X14_91 : FL RX14 91 15 45 (.array (.int)) true false := ⟨"AlmsHouseModel", _, rfl, by decide, rfl, by decide +kernel, Or.inl ⟨rfl, lw_g_in (i := 1237) (by decide +kernel) (by decide +kernel)⟩, Or.inl rfl⟩
theorem fl_X14_94 : FL RX14 94 15 46 (.array (.int)) true false := ⟨"AlmsHouseModel", _, rfl, by decide, rfl, by decide +kernel, Or.inl ⟨rfl, lw_g_in (i := 1238) (by decide +kernel) (by decide +kernel)⟩, Or.inl rfl⟩
theorem fl_X14_97 : FL RX14 97 15 47 (.array (.boolean)) true false := ⟨"AlmsHouseModel", _, rfl, by decide, rfl, by decide +kernel, Or.inl ⟨rfl, lw_g_in (i := 1239) (by decide +kernel) (by decide +kernel)⟩, Or.inl rfl⟩
theorem fl_X14_377 : FL RX14 377 15 48 (.int) false false := ⟨"AlmsHouseModel", _, rfl, by decide, rfl, by decide +kernel, Or.inl ⟨rfl, lw_g_in (i := 1240) (by decide +kernel) (by decide +kernel)⟩, Or.inl rfl⟩
theorem fl_X14_100 : FL RX14 100 15 49 (.int) false false := ⟨"AlmsHouseModel", _, rfl, by decide, rfl, by decide +kernel, Or.inl ⟨rfl, lw_g_in (i := 1241) (by decide +kernel) (by decide +kernel)⟩, Or.inl rfl⟩
theorem fl_X14_381 : FL RX14 381 15 50 (.int) false false := ⟨"AlmsHouseModel", _, rfl, by decide, rfl, by decide +kernel, Or.inl ⟨rfl, lw_g_in (i := 1242) (by decide +kernel) (by decide +kernel)⟩, Or.inl rfl⟩
theorem fl_X14_389 : FL RX14 389 15 51 (.int) false false := ⟨"AlmsHouseModel", _, rfl, by decide, rfl, by decide +kernel, Or.inl ⟨rfl, lw_g_in (i := 1243) (by decide +kernel) (by decide +kernel)⟩, Or.inl rfl⟩
theorem fl_X14_103 : FL RX14 103 15 52 (.array (.int)) true false := ⟨"AlmsHouseModel", _, rfl, by decide, rfl, by decide +kernel, Or.inl ⟨rfl, lw_g_in (i := 1244) (by decide +kernel) (by decide +kernel)⟩, Or.inl rfl⟩
theorem fl_X14_106 : FL RX14 106 15 53 (.array (.int)) true false := ⟨"AlmsHouseModel", _, rfl, by decide, rfl, by decide +kernel, Or.inl ⟨rfl, lw_g_in (i := 1245) (by decide +kernel) (by decide +kernel)⟩, Or.inl rfl⟩
theorem fl_X14_109 : FL RX14 109 15 54 (.array (.int)) true false := ⟨"AlmsHouseModel", _, rfl, by decide, rfl, by decide +kernel, Or.inl ⟨rfl, lw_g_in (i := 1246) (by decide +kernel) (by decide +kernel)⟩, Or.inl rfl⟩
end
section
/-! the pure values and heaps: an address is (pool, number) -/
abbrev Ad : Type := Nat × Nat
abbrev PV : Type := Int32 ⊕ (Int64 ⊕ Option Ad)
abbrev pI (x : Int32) : PV := Sum.inl x
abbrev pL (x : Int64) : PV := Sum.inr (Sum.inl x)
abbrev pO (o : Option Ad) : PV := Sum.inr (Sum.inr o)
abbrev pR (a : Ad) : PV := Sum.inr (Sum.inr (some a))
abbrev pN : PV := Sum.inr (Sum.inr none)
abbrev Hp : Type := (Nat → Nat) × (Ad → Nat) × (Ad → Nat → Int32) × (Ad → Nat → Int64) × (Ad → Nat → Option Ad)
def cn (h : Hp) : Nat → Nat := h.1
def ln (h : Hp) : Ad → Nat := h.2.1
def vi (h : Hp) : Ad → Nat → Int32 := h.2.2.1
def vl (h : Hp) : Ad → Nat → Int64 := h.2.2.2.1
def vr (h : Hp) : Ad → Nat → Option Ad := h.2.2.2.2
def sI (h : Hp) (a : Ad) (k : Nat) (x : Int32) : Hp := (cn h, ln h, fun b j => if b = a ∧ j = k then x else vi h b j, vl h, vr h)
def sL (h : Hp) (a : Ad) (k : Nat) (x : Int64) : Hp := (cn h, ln h, vi h, fun b j => if b = a ∧ j = k then x else vl h b j, vr h)
def sR (h : Hp) (a : Ad) (k : Nat) (x : Option Ad) : Hp := (cn h, ln h, vi h, vl h, fun b j => if b = a ∧ j = k then x else vr h b j)
/-- a whole array's ints, references anew -/
def sIs (h : Hp) (a : Ad) (f : Nat → Int32) : Hp := (cn h, ln h, fun b j => if b = a then f j else vi h b j, vl h, vr h)
def sRs (h : Hp) (a : Ad) (f : Nat → Option Ad) : Hp := (cn h, ln h, vi h, vl h, fun b j => if b = a then f j else vr h b j)
/-- a new cell of pool p with n places -/
def nw (h : Hp) (p n : Nat) : Hp := (fun q => if q = p then cn h p + 1 else cn h q, fun b => if b = (p, cn h p) then n else ln h b, fun b j => if b = (p, cn h p) then 0 else vi h b j, fun b j => if b = (p, cn h p) then 0 else vl h b j, fun b j => if b = (p, cn h p) then none else vr h b j)
theorem cn_sI (h : Hp) (a : Ad) (k : Nat) (x : Int32) : cn (sI h a k x) = cn h := rfl
theorem ln_sI (h : Hp) (a : Ad) (k : Nat) (x : Int32) : ln (sI h a k x) = ln h := rfl
theorem vi_sI (h : Hp) (a : Ad) (k : Nat) (x : Int32) (b : Ad) (j : Nat) : vi (sI h a k x) b j = if b = a ∧ j = k then x else vi h b j := rfl
theorem vl_sI (h : Hp) (a : Ad) (k : Nat) (x : Int32) : vl (sI h a k x) = vl h := rfl
theorem vr_sI (h : Hp) (a : Ad) (k : Nat) (x : Int32) : vr (sI h a k x) = vr h := rfl
theorem cn_sL (h : Hp) (a : Ad) (k : Nat) (x : Int64) : cn (sL h a k x) = cn h := rfl
theorem ln_sL (h : Hp) (a : Ad) (k : Nat) (x : Int64) : ln (sL h a k x) = ln h := rfl
theorem vi_sL (h : Hp) (a : Ad) (k : Nat) (x : Int64) : vi (sL h a k x) = vi h := rfl
theorem vl_sL (h : Hp) (a : Ad) (k : Nat) (x : Int64) (b : Ad) (j : Nat) : vl (sL h a k x) b j = if b = a ∧ j = k then x else vl h b j := rfl
theorem vr_sL (h : Hp) (a : Ad) (k : Nat) (x : Int64) : vr (sL h a k x) = vr h := rfl
theorem cn_sR (h : Hp) (a : Ad) (k : Nat) (x : Option Ad) : cn (sR h a k x) = cn h := rfl
theorem ln_sR (h : Hp) (a : Ad) (k : Nat) (x : Option Ad) : ln (sR h a k x) = ln h := rfl
theorem vi_sR (h : Hp) (a : Ad) (k : Nat) (x : Option Ad) : vi (sR h a k x) = vi h := rfl
theorem vl_sR (h : Hp) (a : Ad) (k : Nat) (x : Option Ad) : vl (sR h a k x) = vl h := rfl
theorem vr_sR (h : Hp) (a : Ad) (k : Nat) (x : Option Ad) (b : Ad) (j : Nat) : vr (sR h a k x) b j = if b = a ∧ j = k then x else vr h b j := rfl
theorem cn_sIs (h : Hp) (a : Ad) (f : Nat → Int32) : cn (sIs h a f) = cn h := rfl
theorem ln_sIs (h : Hp) (a : Ad) (f : Nat → Int32) : ln (sIs h a f) = ln h := rfl
theorem vi_sIs (h : Hp) (a : Ad) (f : Nat → Int32) (b : Ad) (j : Nat) : vi (sIs h a f) b j = if b = a then f j else vi h b j := rfl
theorem vl_sIs (h : Hp) (a : Ad) (f : Nat → Int32) : vl (sIs h a f) = vl h := rfl
theorem vr_sIs (h : Hp) (a : Ad) (f : Nat → Int32) : vr (sIs h a f) = vr h := rfl
theorem cn_sRs (h : Hp) (a : Ad) (f : Nat → Option Ad) : cn (sRs h a f) = cn h := rfl
theorem ln_sRs (h : Hp) (a : Ad) (f : Nat → Option Ad) : ln (sRs h a f) = ln h := rfl
theorem vi_sRs (h : Hp) (a : Ad) (f : Nat → Option Ad) : vi (sRs h a f) = vi h := rfl
theorem vl_sRs (h : Hp) (a : Ad) (f : Nat → Option Ad) : vl (sRs h a f) = vl h := rfl
theorem vr_sRs (h : Hp) (a : Ad) (f : Nat → Option Ad) (b : Ad) (j : Nat) : vr (sRs h a f) b j = if b = a then f j else vr h b j := rfl
theorem cn_nw (h : Hp) (p n q : Nat) : cn (nw h p n) q = if q = p then cn h p + 1 else cn h q := rfl
theorem ln_nw (h : Hp) (p n : Nat) (b : Ad) : ln (nw h p n) b = if b = (p, cn h p) then n else ln h b := rfl
theorem vi_nw (h : Hp) (p n : Nat) (b : Ad) (j : Nat) : vi (nw h p n) b j = if b = (p, cn h p) then 0 else vi h b j := rfl
theorem vl_nw (h : Hp) (p n : Nat) (b : Ad) (j : Nat) : vl (nw h p n) b j = if b = (p, cn h p) then 0 else vl h b j := rfl
theorem vr_nw (h : Hp) (p n : Nat) (b : Ad) (j : Nat) : vr (nw h p n) b j = if b = (p, cn h p) then none else vr h b j := rfl
/-! how they lie in the machine -/
def er (ad : Ad → Nat) (o : Option Ad) : Value := va_rf (o.map ad)
def em (ad : Ad → Nat) (v : PV) : Value := match v with
  | .inl x => .int x
  | .inr (.inl x) => .long x
  | .inr (.inr o) => er ad o
def ct (v : PV) : Nat := match v with
  | .inr (.inl _) => 2
  | _ => 1
def cs (st : List PV) : Nat := (st.map ct).sum
theorem em_cat (ad : Ad → Nat) (v : PV) : (em ad v).category = ct v := by
  rcases v with x | x | o
  · rfl
  · rfl
  · cases o <;> rfl
theorem em_cs (ad : Ad → Nat) (st : List PV) : ((st.map (em ad)).map fun v => v.category).sum = cs st := by
  unfold cs
  rw [List.map_map]
  congr 1
  exact List.map_congr_left fun v _ => em_cat ad v
def fv (ad : Ad → Nat) (h : Hp) (ci : Nat) (a : Ad) (k : Nat) : Value := match fk ci k with
  | 0 => .int (vi h a k)
  | 1 => .long (vl h a k)
  | _ => er ad (vr h a k)
def ce (cA : Nat → ClassId) (ad : Ad → Nat) (h : Hp) (a : Ad) : va_E := match pk a.1 with
  | .inl ci => .inr (ci, (List.range (nF ci)).map fun k => fv ad h ci a k)
  | .inr t => .inl (cA t, ln h a, if t < 3 then .inl (fun j => vi h a j) else .inr (.inr (.inr (.inr fun j => (vr h a j).map ad))))
def wl (cA : Nat → ClassId) (ad : Ad → Nat) (h : Hp) (al : List Ad) : va_W := al.map fun a => (ad a, ce cA ad h a)
def okr (h : Hp) (o : Option Ad) : Prop := ∀ a, o = some a → a.2 < cn h a.1 ∨ 64 ≤ a.1
def okv (h : Hp) (v : PV) : Prop := match v with
  | .inr (.inr o) => okr h o
  | _ => True
def okS (h : Hp) (st : List PV) : Prop := ∀ v ∈ st, okv h v
def okL (h : Hp) (L : List (Nat × PV)) : Prop := ∀ q ∈ L, okv h q.2
def emL (ad : Ad → Nat) (L : List (Nat × PV)) : List (Nat × Value) := L.map fun q => (q.1, em ad q.2)
/-- the ground: the heap at the law's entry, where the constants lie, the numbers of the classes, of the arrays' classes -/
abbrev G0 : Type := Heap × (Ad → Nat) × va_G × (Nat → ClassId) × (Nat → Bool)
def gG (g : G0) : Heap := g.1
def gC (g : G0) : Ad → Nat := g.2.1
def gD (g : G0) : va_G := g.2.2.1
def gA (g : G0) : Nat → ClassId := g.2.2.2.1
def gQ (g : G0) : Nat → Bool := g.2.2.2.2
def gF (g : G0) : Nat → Prop := fun q => (gG g).size ≤ q
def tyl (cA : Nat → ClassId) : List (ClassId × FieldType) := (List.range 6).map fun t => (cA t, aty t)
def Wo (g : G0) (ad : Ad → Nat) (al : List Ad) (h : Hp) (H : Heap) : Prop :=
  (∀ a, a ∈ al ↔ a.2 < cn h a.1 ∧ a.1 < 64) ∧ (∀ a ∈ al, ∀ k, okr h (vr h a k)) ∧ (∀ a : Ad, 64 ≤ a.1 → ad a = gC g a) ∧
  va_P (gD g) vwCl (wl (gA g) ad h al) H ∧ va_D (gF g) (wl (gA g) ad h al) ∧ (gG g).size ≤ H.size ∧ (∀ q, q < (gG g).size → H[q]? = (gG g)[q]?)
def Ex (al : List Ad) (ad : Ad → Nat) (al' : List Ad) (ad' : Ad → Nat) : Prop := (∀ a ∈ al, a ∈ al' ∧ ad' a = ad a) ∧ ∀ a : Ad, 64 ≤ a.1 → ad' a = ad a
theorem Ex.rf {al : List Ad} {ad : Ad → Nat} : Ex al ad al ad := ⟨fun _ h => ⟨h, rfl⟩, fun _ _ => rfl⟩
theorem Ex.tr {al al' al2 : List Ad} {ad ad' ad2 : Ad → Nat} (h1 : Ex al ad al' ad') (h2 : Ex al' ad' al2 ad2) : Ex al ad al2 ad2 :=
  ⟨fun a h => ⟨(h2.1 a (h1.1 a h).1).1, ((h2.1 a (h1.1 a h).1).2).trans (h1.1 a h).2⟩, fun a h => (h2.2 a h).trans (h1.2 a h)⟩
theorem Wo.okr_al {g : G0} {ad : Ad → Nat} {al : List Ad} {h : Hp} {H : Heap} (w : Wo g ad al h H) {o : Option Ad} (ho : okr h o) : ∀ a, o = some a → a ∈ al ∨ 64 ≤ a.1 := by
  intro a ha
  rcases ho a ha with q | q
  · by_cases z : a.1 < 64
    · exact Or.inl ((w.1 a).mpr ⟨q, z⟩)
    · exact Or.inr (by omega)
  · exact Or.inr q
theorem Ex.eqr {al al' : List Ad} {ad ad' : Ad → Nat} (x : Ex al ad al' ad') {o : Option Ad} (ho : ∀ a, o = some a → a ∈ al ∨ 64 ≤ a.1) : er ad' o = er ad o := by
  cases o with
  | none => rfl
  | some a =>
    show va_rf (some (ad' a)) = va_rf (some (ad a))
    rcases ho a rfl with q | q
    · rw [(x.1 a q).2]
    · rw [x.2 a q]
theorem Ex.eqv {al al' : List Ad} {ad ad' : Ad → Nat} (x : Ex al ad al' ad') {g : G0} {h : Hp} {H : Heap} (w : Wo g ad al h H) {v : PV} (hv : okv h v) : em ad' v = em ad v := by
  rcases v with y | y | o
  · rfl
  · rfl
  · exact x.eqr (w.okr_al hv)
theorem Ex.eqS {al al' : List Ad} {ad ad' : Ad → Nat} (x : Ex al ad al' ad') {g : G0} {h : Hp} {H : Heap} (w : Wo g ad al h H) {st : List PV} (hv : okS h st) : st.map (em ad') = st.map (em ad) :=
  List.map_congr_left fun v q => x.eqv w (hv v q)
theorem Ex.eqL {al al' : List Ad} {ad ad' : Ad → Nat} (x : Ex al ad al' ad') {g : G0} {h : Hp} {H : Heap} (w : Wo g ad al h H) {L : List (Nat × PV)} (hv : okL h L) : emL ad' L = emL ad L :=
  List.map_congr_left fun q hq => by show (q.1, _) = (q.1, _); rw [x.eqv w (hv q hq)]
theorem okr_mono {g : G0} {al al' : List Ad} {ad ad' : Ad → Nat} {h h' : Hp} {H H' : Heap} (w : Wo g ad al h H) (w' : Wo g ad' al' h' H') (x : Ex al ad al' ad') {o : Option Ad} (ho : okr h o) : okr h' o := by
  intro a ha
  rcases w.okr_al ho a ha with q | q
  · exact Or.inl ((w'.1 a).mp (x.1 a q).1).1
  · exact Or.inr q
theorem okv_mono {g : G0} {al al' : List Ad} {ad ad' : Ad → Nat} {h h' : Hp} {H H' : Heap} (w : Wo g ad al h H) (w' : Wo g ad' al' h' H') (x : Ex al ad al' ad') {v : PV} (ho : okv h v) : okv h' v := by
  rcases v with y | y | o
  · trivial
  · trivial
  · exact okr_mono w w' x ho
theorem okS_mono {g : G0} {al al' : List Ad} {ad ad' : Ad → Nat} {h h' : Hp} {H H' : Heap} (w : Wo g ad al h H) (w' : Wo g ad' al' h' H') (x : Ex al ad al' ad') {st : List PV} (ho : okS h st) : okS h' st := fun v hv => okv_mono w w' x (ho v hv)
theorem okL_mono {g : G0} {al al' : List Ad} {ad ad' : Ad → Nat} {h h' : Hp} {H H' : Heap} (w : Wo g ad al h H) (w' : Wo g ad' al' h' H') (x : Ex al ad al' ad') {L : List (Nat × PV)} (ho : okL h L) : okL h' L := fun q hq => okv_mono w w' x (ho q hq)
/-- the texts: which, how long, their bytes -/
def strL : List (String × Nat × String × Nat) := [("AlmsHouse$Tape", 61, "put", 0), ("AlmsHouse$Tape", 67, "strike", 1), ("AlmsHouse$Tape", 69, "order", 2), ("AlmsHouse$Tape", 71, "or", 3), ("AlmsHouse$Tape", 73, "and", 4), ("AlmsHouse$Tape", 75, "not", 5), ("AlmsHouse$Tape", 77, "age", 6), ("AlmsHouse$Tape", 79, "years", 7), ("AlmsHouse$Tape", 81, "means", 8), ("AlmsHouse$Tape", 83, "kin", 9), ("AlmsHouse$Tape", 85, "waits", 10), ("AlmsHouseModel", 180, "put", 0), ("AlmsHouseModel", 186, "strike", 1), ("AlmsHouseModel", 188, "order", 2), ("AlmsHouseModel", 194, "not", 5), ("AlmsHouseModel", 190, "or", 3), ("AlmsHouseModel", 192, "and", 4), ("AlmsHouseModel", 199, "age", 6), ("AlmsHouseModel", 201, "years", 7), ("AlmsHouseModel", 203, "means", 8), ("AlmsHouseModel", 205, "kin", 9), ("AlmsHouseModel", 206, "waits", 10)]
def lenS : List Nat := [3, 6, 5, 2, 3, 3, 3, 5, 5, 3, 5]
def bytS : List (List Int32) := [[112, 117, 116], [115, 116, 114, 105, 107, 101], [111, 114, 100, 101, 114], [111, 114], [97, 110, 100], [110, 111, 116], [97, 103, 101], [121, 101, 97, 114, 115], [109, 101, 97, 110, 115], [107, 105, 110], [119, 97, 105, 116, 115]]
/-- a static of which the tables say: null, or a reference -/
def gN (g : G0) (j : Nat) : Option Ad := if gQ g j then none else some (69, j)
def Gs (g : G0) (s : State) : Prop :=
  (∀ q ∈ strL, vk_R q.1 q.2.1 q.2.2.1 (gC g (64, q.2.2.2)) s) ∧ vk_S 11 lenS bytS (fun i => gC g (64, i)) (fun i => gC g (65, i)) (gF g) s (gG g) ∧
  va_Z "java/lang/String" "COMPACT_STRINGS" "Z" (.int 1) (gF g) s (gG g) ∧
  va_Z "java/util/ArrayList" "DEFAULTCAPACITY_EMPTY_ELEMENTDATA" "[Ljava/lang/Object;" (.ref (gC g (66, 0))) (gF g) s (gG g) ∧ va_T (.object "java/lang/Object") (gC g (66, 0)) 0 (fun _ => .null) (gF g) s (gG g) ∧
  va_Z "jdk/internal/util/Preconditions" "SIOOBE_FORMATTER" "Ljava/util/function/BiFunction;" (er (gC g) (gN g 0)) (gF g) s (gG g) ∧
  va_Z "java/lang/Throwable" "UNASSIGNED_STACK" "[Ljava/lang/StackTraceElement;" (er (gC g) (gN g 1)) (gF g) s (gG g) ∧
  va_Z "java/lang/Throwable" "SUPPRESSED_SENTINEL" "Ljava/util/List;" (er (gC g) (gN g 2)) (gF g) s (gG g) ∧
  va_Mi "[Ljava/lang/Object;" (gC g (68, 0)) s
/-- what the ground says of the tables of a state -/
def Gd (g : G0) (s : State) : Prop :=
  va_K (gD g) vwCl (tyl (gA g)) s ∧ (∀ w ∈ lw_n, va_Nw w s) ∧ va_AO "java/lang/Object" s ∧ va_AO "AlmsHouse$Change" s ∧ va_AO "AlmsHouseModel$Scheme" s ∧ Gs g s
theorem nw_warm {w : Cond} {s U : State} (hw : isNw w = true) (hW : s.WarmedH U.vm) (h : va_Nw w s) : va_Nw w U := by
  cases w <;> first | exact h.warmF hW | exact va_Nw.warmF hW h | exact va_Nw.warmM hW h | exact va_Nw.warmC hW h | exact va_Nw.warmD hW h | (exfalso; revert hw; simp [isNw])
theorem Gs.warm {g : G0} {s U : State} (hW : s.WarmedH U.vm) (h : Gs g s) : Gs g U := by
  obtain ⟨h1, h2, h3, h4, h5, h6, h7, h8, h9⟩ := h
  exact ⟨fun q hq => (h1 q hq).warm hW, h2.moved hW.alike, h3.moved hW.alike, h4.moved hW.alike, h5.moved hW.alike, h6.moved hW.alike, h7.moved hW.alike, h8.moved hW.alike, h9.moved hW.alike⟩
theorem Gd.warm {g : G0} {s U : State} (hW : s.WarmedH U.vm) (h : Gd g s) : Gd g U :=
  ⟨va_K.moved hW.alike h.1, fun w hw => nw_warm (List.mem_filter.mp hw).2 hW (h.2.1 w hw), va_AO.moved hW.alike h.2.2.1, va_AO.moved hW.alike h.2.2.2.1, va_AO.moved hW.alike h.2.2.2.2.1, h.2.2.2.2.2.warm hW⟩
end
section
/-! the judgement: V speaks of pure values alone -/
abbrev Kf : Type := String × String × ByteArray × Nat × Option FieldType
abbrev kO (k : Kf) : String := k.1
abbrev kN (k : Kf) : String := k.2.1
abbrev kC (k : Kf) : ByteArray := k.2.2.1
abbrev kL (k : Kf) : Nat := k.2.2.2.1
abbrev kR (k : Kf) : Option FieldType := k.2.2.2.2
def Cx (g : G0) (k : Kf) (d : Nat) (p : Program) (R : Room) (s : State) (m : MethodId) (args : Array Value) (meth : Method) (c : Code) : Prop :=
  p.tables.exec = Jvm.exec ∧ c.code = kC k ∧ c.maxLocals = kL k ∧ s.vm.findClass (kO k) = some m.cls ∧ (∀ w ∈ lw_g, w.before args s = true) ∧ Gd g s ∧ d ≤ R.frames ∧ 41 * d ≤ R.locals ∧ meth.name = kN k ∧ (gG g).size ≤ s.heap.size
/-- the return instruction that hands r over -/
def rtAt (k : Kf) (pc : Nat) (r : Option PV) : Prop := match r with
  | none => decode (kC k) pc = .ok (.return_, 1) ∧ kR k = none
  | some (.inl x) => decode (kC k) pc = .ok (.ireturn, 1) ∧ ∃ ty, kR k = some ty ∧ narrow ty (.int x) = .int x
  | some (.inr (.inl _)) => decode (kC k) pc = .ok (.lreturn, 1) ∧ kR k = some .long
  | some (.inr (.inr _)) => decode (kC k) pc = .ok (.areturn, 1) ∧ ∃ t, kR k = some t ∧ ((∃ n, t = .object n) ∨ ∃ u, t = .array u)
def okO (h : Hp) (r : Option PV) : Prop := ∀ v, r = some v → okv h v
abbrev EP : Type := Nat → List (Nat × PV) → Ad → Hp → Prop
def RC (g : G0) (k : Kf) (p : Program) (l : Launch) (e : Env) (R : Room) (s : State) (m : MethodId) (args : Array Value) (below : List Frame) (meth : Method) (c : Code) (al0 : List Ad) (ad0 : Ad → Nat) (Q : Option PV → Hp → Prop) (Z : State → Prop) : Prop :=
  ∀ (r : Option PV) (h : Hp) (ad : Ad → Nat) (al : List Ad) (H : Heap) (locs : List Loc) (cells slots : Nat) (pc : Nat) (ls : Array Slot),
    Q r h → Wo g ad al h H → Ex al0 ad0 al ad → va_S (gF g) s.heap H locs → okO h r → cells ≤ R.cells → slots ≤ R.slots → rtAt k pc r →
    W p l e R s m args below meth c H locs cells slots Z (F0 m pc ls (r.toList.map (em ad)))
def EC (g : G0) (k : Kf) (p : Program) (l : Launch) (e : Env) (R : Room) (s : State) (m : MethodId) (args : Array Value) (below : List Frame) (meth : Method) (c : Code) (al0 : List Ad) (ad0 : Ad → Nat) (E : EP) (Z : State → Prop) : Prop :=
  ∀ (a : Ad) (h : Hp) (ad : Ad → Nat) (al : List Ad) (H : Heap) (locs : List Loc) (cells slots : Nat) (pc : Nat) (ls : Array Slot) (L : List (Nat × PV)) (st : List Value) (T : State),
    E pc L a h → Wo g ad al h H → Ex al0 ad0 al ad → va_S (gF g) s.heap H locs → okv h (pR a) → okL h L → lv_has ls (kL k) (emL ad L) → cells ≤ R.cells → slots ≤ R.slots →
    T.heap = H → Stand p l e R s m args below meth c T locs cells slots →
    ∃ t, Steps p.tables e below ((T.setTop (F0 m pc ls st)).pushFrame (.throwing (ad a))) t ∧ Z t
def V (g : G0) (k : Kf) (d rc rs pc : Nat) (L : List (Nat × PV)) (st : List PV) (h : Hp) (Q : Option PV → Hp → Prop) (E : EP) : Prop :=
  ∀ (p : Program) (l : Launch) (e : Env) (R : Room) (s : State) (m : MethodId) (args : Array Value) (below : List Frame) (meth : Method) (c : Code) (Z : State → Prop) (al0 : List Ad) (ad0 : Ad → Nat)
    (ad : Ad → Nat) (al : List Ad) (H : Heap) (locs : List Loc) (cells slots : Nat) (ls : Array Slot),
    Cx g k d p R s m args meth c → RC g k p l e R s m args below meth c al0 ad0 Q Z → EC g k p l e R s m args below meth c al0 ad0 E Z →
    Wo g ad al h H → Ex al0 ad0 al ad → va_S (gF g) s.heap H locs → lv_has ls (kL k) (emL ad L) → okL h L → okS h st → cells + rc ≤ R.cells → slots + rs ≤ R.slots →
    W p l e R s m args below meth c H locs cells slots Z (F0 m pc ls (st.map (em ad)))
/-- the contract -/
def Mx (g : G0) (y : MethodName) (cw : Cond) (d : Nat) (A : List PV) (h : Hp) (mc ms : Nat) (Q : Option PV → Hp → Prop) (X : Ad → Hp → Prop) : Prop :=
  ∀ (l : Launch) (ad : Ad → Nat) (al : List Ad), okS h A → MetFree l y (headSpec (cw :: lw_g) { frames := d, cells := mc, slots := ms, locals := 41 * d })
    (fun v U => v = (A.map (em ad)).toArray ∧ Wo g ad al h U.heap ∧ Gd g U) (fun _ _ _ _ _ => True)
    (fun _ u o t => ((∃ (r : Option PV) (h' : Hp) (ad' : Ad → Nat) (al' : List Ad), o = .returned (r.map (em ad')) ∧ Q r h' ∧ okO h' r ∧ Wo g ad' al' h' t.heap ∧ Ex al ad al' ad') ∨
      (∃ (a : Ad) (h' : Hp) (ad' : Ad → Nat) (al' : List Ad), o = .threw (ad' a) ∧ X a h' ∧ okv h' (pR a) ∧ Wo g ad' al' h' t.heap ∧ Ex al ad al' ad')) ∧ va_F (gF g) u t ∧
      ∃ L, tw_FE u t L mc ms ∧ ∀ q ∈ L, gF g q.base)
def pA : Nat → List PV → List (Nat × PV)
  | _, [] => []
  | i, v :: vs => (i, v) :: pA (if ct v = 2 then i + 2 else i + 1) vs
theorem lv_args_em (ad : Ad → Nat) : ∀ (A : List PV) (i : Nat), lv_args i (A.map (em ad)) = emL ad (pA i A)
  | [], _ => rfl
  | v :: A, i => by
    show (i, em ad v) :: lv_args (if (em ad v).category = 2 then i + 2 else i + 1) (A.map (em ad)) = _
    rw [em_cat, lv_args_em ad A]
    rfl
theorem lg_sl_cs (ad : Ad → Nat) : ∀ (A : List PV), (lg_sl (A.map (em ad))).length = cs A
  | [] => rfl
  | v :: A => by
    show (lg_sl (em ad v :: A.map (em ad))).length = _
    have e : lg_sl (em ad v :: A.map (em ad)) = (if (em ad v).category = 2 then [.val (em ad v), .second] else [.val (em ad v)]) ++ lg_sl (A.map (em ad)) := rfl
    rw [e, List.length_append, lg_sl_cs ad A, em_cat]
    have e2 : cs (v :: A) = ct v + cs A := by simp [cs]
    rw [e2]
    congr 1
    rcases v with x | x | o <;> rfl
theorem okL_pA {h : Hp} : ∀ (A : List PV) (i : Nat), okS h A → okL h (pA i A)
  | [], _, _ => fun q hq => by cases hq
  | v :: A, i, ho => by
    intro q hq
    rcases List.mem_cons.mp hq with rfl | hq
    · exact ho v List.mem_cons_self
    · exact okL_pA A _ (fun w hw => ho w (List.mem_cons_of_mem _ hw)) q hq
theorem W_mono {p : Program} {l : Launch} {e : Env} {R : Room} {s : State} {m : MethodId} {args : Array Value} {below : List Frame} {meth : Method} {c : Code} {H : Heap} {locs : List Loc} {cells slots : Nat} {Q Q' : State → Prop} {g : JFrame}
    (h : ∀ t, Q t → Q' t) (w : W p l e R s m args below meth c H locs cells slots Q g) : W p l e R s m args below meth c H locs cells slots Q' g := by
  intro T hT X
  obtain ⟨t, a, b⟩ := w T hT X
  exact ⟨t, a, h t b⟩
theorem er_or (ad : Ad → Nat) (o : Option Ad) : er ad o = .null ∨ ∃ a, er ad o = .ref a := by
  cases o with
  | none => exact Or.inl rfl
  | some a => exact Or.inr ⟨ad a, rfl⟩
def ZM (g : G0) (below : List Frame) (s : State) (al : List Ad) (ad : Ad → Nat) (mc ms : Nat) (Q : Option PV → Hp → Prop) (X : Ad → Hp → Prop) : State → Prop := fun t =>
  ∃ o, t.status = .running ∧ Ended t below o ∧ ((∃ (r : Option PV) (h' : Hp) (ad' : Ad → Nat) (al' : List Ad), o = .returned (r.map (em ad')) ∧ Q r h' ∧ okO h' r ∧ Wo g ad' al' h' t.heap ∧ Ex al ad al' ad') ∨
      (∃ (a : Ad) (h' : Hp) (ad' : Ad → Nat) (al' : List Ad), o = .threw (ad' a) ∧ X a h' ∧ okv h' (pR a) ∧ Wo g ad' al' h' t.heap ∧ Ex al ad al' ad')) ∧ va_F (gF g) s t ∧
      ∃ L, tw_FE s t L mc ms ∧ ∀ q ∈ L, gF g q.base
section JDG
variable {g : G0} {k : Kf} {p : Program} {l : Launch} {e : Env} {R : Room} {s : State} {m : MethodId} {args : Array Value} {below : List Frame} {meth : Method} {c : Code}
theorem RC_M {al : List Ad} {ad : Ad → Nat} {Q : Option PV → Hp → Prop} {X : Ad → Hp → Prop} (hx : p.tables.exec = Jvm.exec) (hb : c.code = kC k) (hr : meth.sig.returnType = kR k) (hlocks : meth.locks = false) : RC g k p l e R s m args below meth c al ad Q (ZM g below s al ad R.cells R.slots Q X) := by
  intro r h' ad' al' H' locs' cells' slots' pc' ls' hq w x hS ho hc hs hrt
  refine W.widen hc hs ?_
  have key : ∀ t : State, MQ below (fun _ st o t => o = .returned (r.map (em ad')) ∧ t.heap = H') args s R.cells R.slots (gF g) t → ZM g below s al ad R.cells R.slots Q X t := by
    rintro t ⟨o, h1, h2, ⟨rfl, h3⟩, L, ⟨-, h4, h5⟩, h6⟩
    exact ⟨_, h1, h2, Or.inl ⟨r, h', ad', al', rfl, hq, ho, by rw [h3]; exact w, x⟩, hS.F h3, L, ⟨h4, h5⟩, h6⟩
  refine W_mono key ?_
  rcases r with _ | r
  · exact W.vret hx hb (hr.trans hrt.2) (fun t ht _ => ⟨rfl, ht⟩) hS.2.2 hrt.1 hlocks
  · rcases r with v | v | o
    · obtain ⟨hd, ty, h1, h2⟩ := hrt
      exact W.zret hx hb (hr.trans h1) h2 (fun t ht _ => ⟨rfl, ht⟩) hS.2.2 hd hlocks
    · exact W.lret hx hb (hr.trans hrt.2) (fun t ht _ => ⟨rfl, ht⟩) hS.2.2 hrt.1 hlocks
    · obtain ⟨hd, ty, h1, h2⟩ := hrt
      exact W.aret hx hb (hr.trans h1) h2 (er_or ad' o) (fun t ht _ => ⟨rfl, ht⟩) hS.2.2 hd hlocks
theorem EC_M {al : List Ad} {ad : Ad → Nat} {Q : Option PV → Hp → Prop} {X : Ad → Hp → Prop} (hlocks : meth.locks = false) {E : EP} (hout : ∀ pc L a h', E pc L a h' → (∀ z ∈ c.exceptionTable.toList, covers z pc = false) ∧ X a h') : EC g k p l e R s m args below meth c al ad E (ZM g below s al ad R.cells R.slots Q X) := by
  intro a h' ad' al' H' locs' cells' slots' pc' ls' L' st' T he w x hS ho _ _ hc hs hT X0
  have X1 := stand_widen X0 hc hs
  obtain ⟨ho1, ho2⟩ := hout _ _ _ _ he
  obtain ⟨h1, h2, h3, h4, h5⟩ := X1.leaveThrown (ad' a) (g := F0 m pc' ls' st') rfl rfl rfl ho1 hlocks
  exact ⟨_, h1, _, h2, h3, Or.inr ⟨a, h', ad', al', rfl, ho2, ho, by rw [show (T.setFrames (.throwing (ad' a) :: below)).heap = H' from hT]; exact w, x⟩, hS.F hT, locs', ⟨h4, h5⟩, hS.2.2⟩
end JDG
theorem Mx.of {g : G0} {y : MethodName} {cc : ByteArray} {nL d mc ms : Nat} {rt : Option FieldType} {A : List PV} {h : Hp} {Q : Option PV → Hp → Prop} {X : Ad → Hp → Prop} (hy : plainName y.cls = true) (hA : cs A ≤ nL)
    (hV : V g (y.cls, y.name, cc, nL, rt) d mc ms 0 (pA 0 A) [] h Q (fun _ _ a h' => X a h')) : Mx g y (Cond.code y cc nL rt) d A h mc ms Q X := by
  intro l ad al hok
  refine MetFree.of_bodyS (code := cc) (maxLocals := nL) (ret := rt) hy ?_ ?_
  · intro args s m h hn
    obtain ⟨meth, c, h1, h2, h3, h4, h5, h6, -, -⟩ := Cond.code_spec hn (atoms_spec (ws := Cond.code y cc nL rt :: lw_g) h _ List.mem_cons_self)
    exact ⟨meth, c, h1, h2, h3, h4, h5, h6⟩
  · intro p e s m args below meth c s₁ B hml hP _
    obtain ⟨rfl, hw, hgd⟩ := hP
    have hh0 : s₁.heap = s.heap := by rw [B.state]; rfl
    have hts0 := atoms_spec (ws := Cond.code y cc nL rt :: lw_g) B.pre
    have hex : c.exceptionTable.isEmpty = true := by
      obtain ⟨meth', c', hm', hc', -, -, -, -, he', -⟩ := Cond.code_spec B.named (hts0 _ List.mem_cons_self)
      cases B.method.symm.trans hm'
      cases (Stand.of_body B).code.symm.trans hc'
      exact he'
    have hex2 : c.exceptionTable.toList = [] := by
      have h0 : c.exceptionTable.size = 0 := by simpa [Array.isEmpty] using hex
      exact List.eq_nil_of_length_eq_zero (by simpa using h0)
    have hl := lv_entry (A.map (em ad)) (n := nL) (by rw [lg_sl_cs]; exact hA)
    rw [lv_args_em] at hl
    have K := hV p l e _ s m (A.map (em ad)).toArray below meth c (ZM g below s al ad mc ms Q X) al ad ad al s.heap [] 0 0 _
      ⟨B.exec, B.bytes, hml, findClass_of_methodNamed B.named, fun w hw => hts0 w (List.mem_cons_of_mem _ hw), hgd, Nat.le_refl _, Nat.le_refl _, (name_of_methodNamed B.named B.method).1, hw.2.2.2.2.2.1⟩
      (RC_M (R := { frames := d, cells := mc, slots := ms, locals := 41 * d }) B.exec B.bytes B.returns B.notSynchronized)
      (EC_M (R := { frames := d, cells := mc, slots := ms, locals := 41 * d }) B.notSynchronized (fun pc L a h' he => ⟨fun z hz => (by rw [hex2] at hz; cases hz), he⟩))
      hw Ex.rf va_S.rf hl (okL_pA A 0 hok) (fun v hv => by cases hv) (Nat.le_of_eq (Nat.zero_add _)) (Nat.le_of_eq (Nat.zero_add _))
    have K2 : W p l e { frames := d, cells := mc, slots := ms, locals := 41 * d } s m (A.map (em ad)).toArray below meth c s₁.heap [] 0 0 (ZM g below s al ad mc ms Q X) (entryFrame m (A.map (em ad)).toArray nL) := by
      rw [hh0, lg_entry_eq]
      exact K
    obtain ⟨t, a1, o, b1, b2, b3⟩ := K2 s₁ rfl (Stand.of_body B)
    exact ⟨t, o, a1, b1, b2, b3⟩
end
section
def lk : Nat → List (Nat × PV) → Option PV
  | _, [] => none
  | i, q :: t => if i = q.1 then some q.2 else lk i t
theorem lk_mem : ∀ {L : List (Nat × PV)} {i : Nat} {v : PV}, lk i L = some v → (i, v) ∈ L
  | [], _, _, h => by cases h
  | q :: t, i, v, h => by
    unfold lk at h
    by_cases c : i = q.1
    · rw [if_pos c] at h
      have e : q = (i, v) := by rw [c, ← Option.some.inj h]
      rw [e]
      exact List.mem_cons_self
    · rw [if_neg c] at h
      exact List.mem_cons_of_mem _ (lk_mem h)
def sto (i : Nat) (v : PV) (L : List (Nat × PV)) : List (Nat × PV) := (i, v) :: L.filter (fun q => !(q.1 == i) && !(q.1 + 1 == i && ct q.2 == 2))
def sto2 (i : Nat) (v : PV) (L : List (Nat × PV)) : List (Nat × PV) := (i, v) :: L.filter (fun q => !(q.1 == i) && (!(q.1 == i + 1) && !(q.1 + 1 == i && ct q.2 == 2)))
theorem emL_sto (ad : Ad → Nat) (i : Nat) (v : PV) (L : List (Nat × PV)) : (i, em ad v) :: (emL ad L).filter (fun q => !(q.1 == i) && !(q.1 + 1 == i && q.2.category == 2)) = emL ad (sto i v L) := by
  unfold sto emL
  rw [List.map_cons, List.filter_map]
  congr 2
  apply List.filter_congr
  intro q _
  simp only [Function.comp, em_cat]
theorem emL_sto2 (ad : Ad → Nat) (i : Nat) (v : PV) (L : List (Nat × PV)) : (i, em ad v) :: (emL ad L).filter (fun q => !(q.1 == i) && (!(q.1 == i + 1) && !(q.1 + 1 == i && q.2.category == 2))) = emL ad (sto2 i v L) := by
  unfold sto2 emL
  rw [List.map_cons, List.filter_map]
  congr 2
  apply List.filter_congr
  intro q _
  simp only [Function.comp, em_cat]
theorem okL_sto {h : Hp} {i : Nat} {v : PV} {L : List (Nat × PV)} (hv : okv h v) (hL : okL h L) : okL h (sto i v L) := by
  intro q hq
  rcases List.mem_cons.mp hq with rfl | hq
  · exact hv
  · exact hL q (List.mem_filter.mp hq).1
theorem okL_sto2 {h : Hp} {i : Nat} {v : PV} {L : List (Nat × PV)} (hv : okv h v) (hL : okL h L) : okL h (sto2 i v L) := by
  intro q hq
  rcases List.mem_cons.mp hq with rfl | hq
  · exact hv
  · exact hL q (List.mem_filter.mp hq).1
theorem lv_lk {ls : Array Slot} {n : Nat} {ad : Ad → Nat} {L : List (Nat × PV)} {i : Nat} {v : PV} (hl : lv_has ls n (emL ad L)) (h : lk i L = some v) : ls[i]? = some (.val (em ad v)) :=
  hl.2.2 (i, em ad v) (List.mem_map.mpr ⟨(i, v), lk_mem h, rfl⟩)
theorem okS.t {h : Hp} {v : PV} {st : List PV} (x : okS h (v :: st)) : okS h st := fun w hw => x w (List.mem_cons_of_mem _ hw)
theorem okS.hd {h : Hp} {v : PV} {st : List PV} (x : okS h (v :: st)) : okv h v := x v List.mem_cons_self
theorem okS.c {h : Hp} {v : PV} {st : List PV} (hv : okv h v) (x : okS h st) : okS h (v :: st) := fun w hw => by
  rcases List.mem_cons.mp hw with rfl | hw
  · exact hv
  · exact x w hw
section VR1
variable {g : G0} {k : Kf} {dd rc rs pc : Nat} {L : List (Nat × PV)} {st : List PV} {h : Hp} {Q : Option PV → Hp → Prop} {E : EP}
theorem v_iconst {n : Int} (v : Int32) (d : decode (kC k) pc = .ok (.iconst n, 1)) (hv : Int32.ofInt n = v) (K : V g k dd rc rs (pc + 1) L (pI v :: st) h Q E) : V g k dd rc rs (pc) L (st) h Q E := by
  intro p l e R s m args below meth c Z al0 ad0 ad al H locs cells slots ls cx hrc hec w x0 hS hl hL hs hc hsl
  exact lv_iconst cx.1 cx.2.1 d hv (K p l e R s m args below meth c Z al0 ad0 ad al H locs cells slots ls cx hrc hec w x0 hS hl hL (okS.c trivial hs) hc hsl)
theorem v_bipush {n : Int} (v : Int32) (d : decode (kC k) pc = .ok (.bipush n, 2)) (hv : (Int8.ofInt n).toInt32 = v) (K : V g k dd rc rs (pc + 2) L (pI v :: st) h Q E) : V g k dd rc rs (pc) L (st) h Q E := by
  intro p l e R s m args below meth c Z al0 ad0 ad al H locs cells slots ls cx hrc hec w x0 hS hl hL hs hc hsl
  exact lv_bipush cx.1 cx.2.1 d hv (K p l e R s m args below meth c Z al0 ad0 ad al H locs cells slots ls cx hrc hec w x0 hS hl hL (okS.c trivial hs) hc hsl)
theorem v_sipush {n : Int} (v : Int32) (d : decode (kC k) pc = .ok (.sipush n, 3)) (hv : (Int16.ofInt n).toInt32 = v) (K : V g k dd rc rs (pc + 3) L (pI v :: st) h Q E) : V g k dd rc rs (pc) L (st) h Q E := by
  intro p l e R s m args below meth c Z al0 ad0 ad al H locs cells slots ls cx hrc hec w x0 hS hl hL hs hc hsl
  exact lv_sipush cx.1 cx.2.1 d hv (K p l e R s m args below meth c Z al0 ad0 ad al H locs cells slots ls cx hrc hec w x0 hS hl hL (okS.c trivial hs) hc hsl)
theorem v_lconst {n : Fin 2} (v : Int64) (d : decode (kC k) pc = .ok (.lconst n, 1)) (hv : Int64.ofNat (n : Nat) = v) (K : V g k dd rc rs (pc + 1) L (pL v :: st) h Q E) : V g k dd rc rs (pc) L (st) h Q E := by
  intro p l e R s m args below meth c Z al0 ad0 ad al H locs cells slots ls cx hrc hec w x0 hS hl hL hs hc hsl
  exact lv_lconst cx.1 cx.2.1 d hv (K p l e R s m args below meth c Z al0 ad0 ad al H locs cells slots ls cx hrc hec w x0 hS hl hL (okS.c trivial hs) hc hsl)
theorem v_ldc {i : Nat} (v : Int32) (d : decode (kC k) pc = .ok (.ldc i, 2)) (hw : Cond.constant (kO k) i v ∈ lw_g) (K : V g k dd rc rs (pc + 2) L (pI v :: st) h Q E) : V g k dd rc rs (pc) L (st) h Q E := by
  intro p l e R s m args below meth c Z al0 ad0 ad al H locs cells slots ls cx hrc hec w x0 hS hl hL hs hc hsl
  exact lv_ldc cx.1 cx.2.1 cx.2.2.2.1 (cx.2.2.2.2.1 _ hw) d (K p l e R s m args below meth c Z al0 ad0 ad al H locs cells slots ls cx hrc hec w x0 hS hl hL (okS.c trivial hs) hc hsl)
theorem v_ldcw {i : Nat} (v : Int32) (d : decode (kC k) pc = .ok (.ldc_w i, 3)) (hw : Cond.constant (kO k) i v ∈ lw_g) (K : V g k dd rc rs (pc + 3) L (pI v :: st) h Q E) : V g k dd rc rs (pc) L (st) h Q E := by
  intro p l e R s m args below meth c Z al0 ad0 ad al H locs cells slots ls cx hrc hec w x0 hS hl hL hs hc hsl
  exact lv_ldcw cx.1 cx.2.1 cx.2.2.2.1 (cx.2.2.2.2.1 _ hw) d (K p l e R s m args below meth c Z al0 ad0 ad al H locs cells slots ls cx hrc hec w x0 hS hl hL (okS.c trivial hs) hc hsl)
theorem v_ldc2 {i : Nat} (v : Int64) (d : decode (kC k) pc = .ok (.ldc2_w i, 3)) (hw : Cond.constantLong (kO k) i v ∈ lw_g) (K : V g k dd rc rs (pc + 3) L (pL v :: st) h Q E) : V g k dd rc rs (pc) L (st) h Q E := by
  intro p l e R s m args below meth c Z al0 ad0 ad al H locs cells slots ls cx hrc hec w x0 hS hl hL hs hc hsl
  exact lv_ldc2 cx.1 cx.2.1 cx.2.2.2.1 (cx.2.2.2.2.1 _ hw) d (K p l e R s m args below meth c Z al0 ad0 ad al H locs cells slots ls cx hrc hec w x0 hS hl hL (okS.c trivial hs) hc hsl)
theorem v_null (d : decode (kC k) pc = .ok (.aconst_null, 1)) (K : V g k dd rc rs (pc + 1) L (pN :: st) h Q E) : V g k dd rc rs (pc) L (st) h Q E := by
  intro p l e R s m args below meth c Z al0 ad0 ad al H locs cells slots ls cx hrc hec w x0 hS hl hL hs hc hsl
  exact lv_null cx.1 cx.2.1 d (K p l e R s m args below meth c Z al0 ad0 ad al H locs cells slots ls cx hrc hec w x0 hS hl hL (okS.c (fun a h => by cases h) hs) hc hsl)
theorem v_iload_n {n : Fin 4} {x : Int32} (d : decode (kC k) pc = .ok (.iload_n n, 1)) (hx : lk n.val L = some (pI x)) (K : V g k dd rc rs (pc + 1) L (pI x :: st) h Q E) : V g k dd rc rs (pc) L (st) h Q E := by
  intro p l e R s m args below meth c Z al0 ad0 ad al H locs cells slots ls cx hrc hec w x0 hS hl hL hs hc hsl
  exact lv_iload_n cx.1 cx.2.1 d rfl (lv_lk hl hx) (K p l e R s m args below meth c Z al0 ad0 ad al H locs cells slots ls cx hrc hec w x0 hS hl hL (okS.c trivial hs) hc hsl)
theorem v_iload {n : Nat} {x : Int32} (d : decode (kC k) pc = .ok (.iload n, 2)) (hx : lk n L = some (pI x)) (K : V g k dd rc rs (pc + 2) L (pI x :: st) h Q E) : V g k dd rc rs (pc) L (st) h Q E := by
  intro p l e R s m args below meth c Z al0 ad0 ad al H locs cells slots ls cx hrc hec w x0 hS hl hL hs hc hsl
  exact lv_iload cx.1 cx.2.1 d (lv_lk hl hx) (K p l e R s m args below meth c Z al0 ad0 ad al H locs cells slots ls cx hrc hec w x0 hS hl hL (okS.c trivial hs) hc hsl)
theorem v_lload_n {n : Fin 4} {x : Int64} (d : decode (kC k) pc = .ok (.lload_n n, 1)) (hx : lk n.val L = some (pL x)) (K : V g k dd rc rs (pc + 1) L (pL x :: st) h Q E) : V g k dd rc rs (pc) L (st) h Q E := by
  intro p l e R s m args below meth c Z al0 ad0 ad al H locs cells slots ls cx hrc hec w x0 hS hl hL hs hc hsl
  exact lv_lload_n cx.1 cx.2.1 d rfl (lv_lk hl hx) (K p l e R s m args below meth c Z al0 ad0 ad al H locs cells slots ls cx hrc hec w x0 hS hl hL (okS.c trivial hs) hc hsl)
theorem v_lload {n : Nat} {x : Int64} (d : decode (kC k) pc = .ok (.lload n, 2)) (hx : lk n L = some (pL x)) (K : V g k dd rc rs (pc + 2) L (pL x :: st) h Q E) : V g k dd rc rs (pc) L (st) h Q E := by
  intro p l e R s m args below meth c Z al0 ad0 ad al H locs cells slots ls cx hrc hec w x0 hS hl hL hs hc hsl
  exact lv_lload cx.1 cx.2.1 d (lv_lk hl hx) (K p l e R s m args below meth c Z al0 ad0 ad al H locs cells slots ls cx hrc hec w x0 hS hl hL (okS.c trivial hs) hc hsl)
theorem v_aload_n {n : Fin 4} {o : Option Ad} (d : decode (kC k) pc = .ok (.aload_n n, 1)) (hx : lk n.val L = some (pO o)) (K : V g k dd rc rs (pc + 1) L (pO o :: st) h Q E) : V g k dd rc rs (pc) L (st) h Q E := by
  intro p l e R s m args below meth c Z al0 ad0 ad al H locs cells slots ls cx hrc hec w x0 hS hl hL hs hc hsl
  have K2 := K p l e R s m args below meth c Z al0 ad0 ad al H locs cells slots ls cx hrc hec w x0 hS hl hL (okS.c (hL _ (lk_mem hx)) hs) hc hsl
  cases o with
  | none => exact lv_aload_nN cx.1 cx.2.1 d rfl (lv_lk hl hx) K2
  | some a => exact lv_aload_n cx.1 cx.2.1 d rfl (lv_lk hl hx) K2
theorem v_aload {n : Nat} {o : Option Ad} (d : decode (kC k) pc = .ok (.aload n, 2)) (hx : lk n L = some (pO o)) (K : V g k dd rc rs (pc + 2) L (pO o :: st) h Q E) : V g k dd rc rs (pc) L (st) h Q E := by
  intro p l e R s m args below meth c Z al0 ad0 ad al H locs cells slots ls cx hrc hec w x0 hS hl hL hs hc hsl
  have K2 := K p l e R s m args below meth c Z al0 ad0 ad al H locs cells slots ls cx hrc hec w x0 hS hl hL (okS.c (hL _ (lk_mem hx)) hs) hc hsl
  cases o with
  | none => exact lv_aloadN cx.1 cx.2.1 d (lv_lk hl hx) K2
  | some a => exact lv_aload cx.1 cx.2.1 d (lv_lk hl hx) K2
theorem v_istore_n {n : Fin 4} {x : Int32} (d : decode (kC k) pc = .ok (.istore_n n, 1)) (hn : n.val < kL k) (K : V g k dd rc rs (pc + 1) (sto n.val (pI x) L) (st) h Q E) : V g k dd rc rs (pc) L (pI x :: st) h Q E := by
  intro p l e R s m args below meth c Z al0 ad0 ad al H locs cells slots ls cx hrc hec w x0 hS hl hL hs hc hsl
  exact lv_istore_n cx.1 cx.2.1 d rfl hl hn (emL_sto ad n.val (pI x) L) (fun ls hl => (K p l e R s m args below meth c Z al0 ad0 ad al H locs cells slots ls cx hrc hec w x0 hS hl (okL_sto trivial hL) hs.t hc hsl))
theorem v_istore {n : Nat} {x : Int32} (d : decode (kC k) pc = .ok (.istore n, 2)) (hn : n < kL k) (K : V g k dd rc rs (pc + 2) (sto n (pI x) L) (st) h Q E) : V g k dd rc rs (pc) L (pI x :: st) h Q E := by
  intro p l e R s m args below meth c Z al0 ad0 ad al H locs cells slots ls cx hrc hec w x0 hS hl hL hs hc hsl
  exact lv_istore cx.1 cx.2.1 d hl hn (emL_sto ad n (pI x) L) (fun ls hl => (K p l e R s m args below meth c Z al0 ad0 ad al H locs cells slots ls cx hrc hec w x0 hS hl (okL_sto trivial hL) hs.t hc hsl))
theorem v_lstore_n {n : Fin 4} {x : Int64} (d : decode (kC k) pc = .ok (.lstore_n n, 1)) (hn : n.val + 1 < kL k) (K : V g k dd rc rs (pc + 1) (sto2 n.val (pL x) L) (st) h Q E) : V g k dd rc rs (pc) L (pL x :: st) h Q E := by
  intro p l e R s m args below meth c Z al0 ad0 ad al H locs cells slots ls cx hrc hec w x0 hS hl hL hs hc hsl
  exact lv_lstore_n cx.1 cx.2.1 d rfl hl hn (emL_sto2 ad n.val (pL x) L) (fun ls hl => (K p l e R s m args below meth c Z al0 ad0 ad al H locs cells slots ls cx hrc hec w x0 hS hl (okL_sto2 trivial hL) hs.t hc hsl))
theorem v_lstore {n : Nat} {x : Int64} (d : decode (kC k) pc = .ok (.lstore n, 2)) (hn : n + 1 < kL k) (K : V g k dd rc rs (pc + 2) (sto2 n (pL x) L) (st) h Q E) : V g k dd rc rs (pc) L (pL x :: st) h Q E := by
  intro p l e R s m args below meth c Z al0 ad0 ad al H locs cells slots ls cx hrc hec w x0 hS hl hL hs hc hsl
  exact lv_lstore cx.1 cx.2.1 d hl hn (emL_sto2 ad n (pL x) L) (fun ls hl => (K p l e R s m args below meth c Z al0 ad0 ad al H locs cells slots ls cx hrc hec w x0 hS hl (okL_sto2 trivial hL) hs.t hc hsl))
theorem v_astore_n {n : Fin 4} {o : Option Ad} (d : decode (kC k) pc = .ok (.astore_n n, 1)) (hn : n.val < kL k) (K : V g k dd rc rs (pc + 1) (sto n.val (pO o) L) (st) h Q E) : V g k dd rc rs (pc) L (pO o :: st) h Q E := by
  intro p l e R s m args below meth c Z al0 ad0 ad al H locs cells slots ls cx hrc hec w x0 hS hl hL hs hc hsl
  have K2 := fun ls hl => K p l e R s m args below meth c Z al0 ad0 ad al H locs cells slots ls cx hrc hec w x0 hS hl (okL_sto hs.hd hL) hs.t hc hsl
  cases o with
  | none => exact lv_astore_nN cx.1 cx.2.1 d rfl hl hn (emL_sto ad n.val (pO none) L) K2
  | some a => exact lv_astore_n cx.1 cx.2.1 d rfl hl hn (emL_sto ad n.val (pO (some a)) L) K2
theorem v_astore {n : Nat} {o : Option Ad} (d : decode (kC k) pc = .ok (.astore n, 2)) (hn : n < kL k) (K : V g k dd rc rs (pc + 2) (sto n (pO o) L) (st) h Q E) : V g k dd rc rs (pc) L (pO o :: st) h Q E := by
  intro p l e R s m args below meth c Z al0 ad0 ad al H locs cells slots ls cx hrc hec w x0 hS hl hL hs hc hsl
  have K2 := fun ls hl => K p l e R s m args below meth c Z al0 ad0 ad al H locs cells slots ls cx hrc hec w x0 hS hl (okL_sto hs.hd hL) hs.t hc hsl
  cases o with
  | none => exact lv_astoreN cx.1 cx.2.1 d hl hn (emL_sto ad n (pO none) L) K2
  | some a => exact lv_astore cx.1 cx.2.1 d hl hn (emL_sto ad n (pO (some a)) L) K2
theorem v_iinc {n : Nat} {m : Int} {x : Int32} (v : Int32) (d : decode (kC k) pc = .ok (.iinc n m, 3)) (hx : lk n L = some (pI x)) (hv : x + Int32.ofInt m = v) (hn : n < kL k) (K : V g k dd rc rs (pc + 3) (sto n (pI v) L) (st) h Q E) : V g k dd rc rs (pc) L (st) h Q E := by
  intro p l e R s m args below meth c Z al0 ad0 ad al H locs cells slots ls cx hrc hec w x0 hS hl hL hs hc hsl
  obtain ⟨j, hj⟩ := List.getElem?_of_mem (lk_mem hx)
  have hj2 : (emL ad L)[j]? = some (n, .int x) := by unfold emL; rw [List.getElem?_map, hj]; rfl
  exact lv_iinc cx.1 cx.2.1 d hl hj2 hv hn (emL_sto ad n (pI v) L) (fun ls hl => (K p l e R s m args below meth c Z al0 ad0 ad al H locs cells slots ls cx hrc hec w x0 hS hl (okL_sto trivial hL) hs hc hsl))
theorem v_iadd {x y : Int32} (d : decode (kC k) pc = .ok (.iadd, 1)) (K : V g k dd rc rs (pc + 1) L (pI (x + y) :: st) h Q E) : V g k dd rc rs (pc) L (pI y :: pI x :: st) h Q E := by
  intro p l e R s m args below meth c Z al0 ad0 ad al H locs cells slots ls cx hrc hec w x0 hS hl hL hs hc hsl
  exact lv_iadd cx.1 cx.2.1 d (K p l e R s m args below meth c Z al0 ad0 ad al H locs cells slots ls cx hrc hec w x0 hS hl hL (okS.c trivial hs.t.t) hc hsl)
theorem v_isub {x y : Int32} (d : decode (kC k) pc = .ok (.isub, 1)) (K : V g k dd rc rs (pc + 1) L (pI (x - y) :: st) h Q E) : V g k dd rc rs (pc) L (pI y :: pI x :: st) h Q E := by
  intro p l e R s m args below meth c Z al0 ad0 ad al H locs cells slots ls cx hrc hec w x0 hS hl hL hs hc hsl
  exact lv_isub cx.1 cx.2.1 d (K p l e R s m args below meth c Z al0 ad0 ad al H locs cells slots ls cx hrc hec w x0 hS hl hL (okS.c trivial hs.t.t) hc hsl)
theorem v_imul {x y : Int32} (d : decode (kC k) pc = .ok (.imul, 1)) (K : V g k dd rc rs (pc + 1) L (pI (x * y) :: st) h Q E) : V g k dd rc rs (pc) L (pI y :: pI x :: st) h Q E := by
  intro p l e R s m args below meth c Z al0 ad0 ad al H locs cells slots ls cx hrc hec w x0 hS hl hL hs hc hsl
  exact lv_imul cx.1 cx.2.1 d (K p l e R s m args below meth c Z al0 ad0 ad al H locs cells slots ls cx hrc hec w x0 hS hl hL (okS.c trivial hs.t.t) hc hsl)
theorem v_iand {x y : Int32} (d : decode (kC k) pc = .ok (.iand, 1)) (K : V g k dd rc rs (pc + 1) L (pI (x &&& y) :: st) h Q E) : V g k dd rc rs (pc) L (pI y :: pI x :: st) h Q E := by
  intro p l e R s m args below meth c Z al0 ad0 ad al H locs cells slots ls cx hrc hec w x0 hS hl hL hs hc hsl
  exact lv_iand cx.1 cx.2.1 d (K p l e R s m args below meth c Z al0 ad0 ad al H locs cells slots ls cx hrc hec w x0 hS hl hL (okS.c trivial hs.t.t) hc hsl)
theorem v_ior {x y : Int32} (d : decode (kC k) pc = .ok (.ior, 1)) (K : V g k dd rc rs (pc + 1) L (pI (x ||| y) :: st) h Q E) : V g k dd rc rs (pc) L (pI y :: pI x :: st) h Q E := by
  intro p l e R s m args below meth c Z al0 ad0 ad al H locs cells slots ls cx hrc hec w x0 hS hl hL hs hc hsl
  exact lv_ior cx.1 cx.2.1 d (K p l e R s m args below meth c Z al0 ad0 ad al H locs cells slots ls cx hrc hec w x0 hS hl hL (okS.c trivial hs.t.t) hc hsl)
theorem v_ixor {x y : Int32} (d : decode (kC k) pc = .ok (.ixor, 1)) (K : V g k dd rc rs (pc + 1) L (pI (x ^^^ y) :: st) h Q E) : V g k dd rc rs (pc) L (pI y :: pI x :: st) h Q E := by
  intro p l e R s m args below meth c Z al0 ad0 ad al H locs cells slots ls cx hrc hec w x0 hS hl hL hs hc hsl
  exact lv_ixor cx.1 cx.2.1 d (K p l e R s m args below meth c Z al0 ad0 ad al H locs cells slots ls cx hrc hec w x0 hS hl hL (okS.c trivial hs.t.t) hc hsl)
theorem v_idiv {x y : Int32} (d : decode (kC k) pc = .ok (.idiv, 1)) (hy : ¬ y = 0) (K : V g k dd rc rs (pc + 1) L (pI (x / y) :: st) h Q E) : V g k dd rc rs (pc) L (pI y :: pI x :: st) h Q E := by
  intro p l e R s m args below meth c Z al0 ad0 ad al H locs cells slots ls cx hrc hec w x0 hS hl hL hs hc hsl
  exact lv_idiv cx.1 cx.2.1 d hy (K p l e R s m args below meth c Z al0 ad0 ad al H locs cells slots ls cx hrc hec w x0 hS hl hL (okS.c trivial hs.t.t) hc hsl)
theorem v_irem {x y : Int32} (d : decode (kC k) pc = .ok (.irem, 1)) (hy : ¬ y = 0) (K : V g k dd rc rs (pc + 1) L (pI (x - x / y * y) :: st) h Q E) : V g k dd rc rs (pc) L (pI y :: pI x :: st) h Q E := by
  intro p l e R s m args below meth c Z al0 ad0 ad al H locs cells slots ls cx hrc hec w x0 hS hl hL hs hc hsl
  exact lv_irem cx.1 cx.2.1 d hy (K p l e R s m args below meth c Z al0 ad0 ad al H locs cells slots ls cx hrc hec w x0 hS hl hL (okS.c trivial hs.t.t) hc hsl)
theorem v_ishl {x y : Int32} (d : decode (kC k) pc = .ok (.ishl, 1)) (K : V g k dd rc rs (pc + 1) L (pI (x <<< (y &&& 31)) :: st) h Q E) : V g k dd rc rs (pc) L (pI y :: pI x :: st) h Q E := by
  intro p l e R s m args below meth c Z al0 ad0 ad al H locs cells slots ls cx hrc hec w x0 hS hl hL hs hc hsl
  exact lv_ishl cx.1 cx.2.1 d (K p l e R s m args below meth c Z al0 ad0 ad al H locs cells slots ls cx hrc hec w x0 hS hl hL (okS.c trivial hs.t.t) hc hsl)
theorem v_ishr {x y : Int32} (d : decode (kC k) pc = .ok (.ishr, 1)) (K : V g k dd rc rs (pc + 1) L (pI (x >>> (y &&& 31)) :: st) h Q E) : V g k dd rc rs (pc) L (pI y :: pI x :: st) h Q E := by
  intro p l e R s m args below meth c Z al0 ad0 ad al H locs cells slots ls cx hrc hec w x0 hS hl hL hs hc hsl
  exact lv_ishr cx.1 cx.2.1 d (K p l e R s m args below meth c Z al0 ad0 ad al H locs cells slots ls cx hrc hec w x0 hS hl hL (okS.c trivial hs.t.t) hc hsl)
theorem v_iushr {x y : Int32} (d : decode (kC k) pc = .ok (.iushr, 1)) (K : V g k dd rc rs (pc + 1) L (pI ((x.toUInt32 >>> (y.toUInt32 &&& Int32.toUInt32 31)).toInt32) :: st) h Q E) : V g k dd rc rs (pc) L (pI y :: pI x :: st) h Q E := by
  intro p l e R s m args below meth c Z al0 ad0 ad al H locs cells slots ls cx hrc hec w x0 hS hl hL hs hc hsl
  exact lv_iushr cx.1 cx.2.1 d rfl (K p l e R s m args below meth c Z al0 ad0 ad al H locs cells slots ls cx hrc hec w x0 hS hl hL (okS.c trivial hs.t.t) hc hsl)
theorem v_ladd {x y : Int64} (d : decode (kC k) pc = .ok (.ladd, 1)) (K : V g k dd rc rs (pc + 1) L (pL (x + y) :: st) h Q E) : V g k dd rc rs (pc) L (pL y :: pL x :: st) h Q E := by
  intro p l e R s m args below meth c Z al0 ad0 ad al H locs cells slots ls cx hrc hec w x0 hS hl hL hs hc hsl
  exact lv_ladd cx.1 cx.2.1 d (K p l e R s m args below meth c Z al0 ad0 ad al H locs cells slots ls cx hrc hec w x0 hS hl hL (okS.c trivial hs.t.t) hc hsl)
theorem v_lmul {x y : Int64} (d : decode (kC k) pc = .ok (.lmul, 1)) (K : V g k dd rc rs (pc + 1) L (pL (x * y) :: st) h Q E) : V g k dd rc rs (pc) L (pL y :: pL x :: st) h Q E := by
  intro p l e R s m args below meth c Z al0 ad0 ad al H locs cells slots ls cx hrc hec w x0 hS hl hL hs hc hsl
  exact lv_lmul cx.1 cx.2.1 d (K p l e R s m args below meth c Z al0 ad0 ad al H locs cells slots ls cx hrc hec w x0 hS hl hL (okS.c trivial hs.t.t) hc hsl)
theorem v_lsub {x y : Int64} (d : decode (kC k) pc = .ok (.lsub, 1)) (K : V g k dd rc rs (pc + 1) L (pL (x - y) :: st) h Q E) : V g k dd rc rs (pc) L (pL y :: pL x :: st) h Q E := by
  intro p l e R s m args below meth c Z al0 ad0 ad al H locs cells slots ls cx hrc hec w x0 hS hl hL hs hc hsl
  exact lv_lsub cx.1 cx.2.1 d (K p l e R s m args below meth c Z al0 ad0 ad al H locs cells slots ls cx hrc hec w x0 hS hl hL (okS.c trivial hs.t.t) hc hsl)
theorem v_i2l {x : Int32} (d : decode (kC k) pc = .ok (.i2l, 1)) (K : V g k dd rc rs (pc + 1) L (pL x.toInt64 :: st) h Q E) : V g k dd rc rs (pc) L (pI x :: st) h Q E := by
  intro p l e R s m args below meth c Z al0 ad0 ad al H locs cells slots ls cx hrc hec w x0 hS hl hL hs hc hsl
  exact lv_i2l cx.1 cx.2.1 d rfl (K p l e R s m args below meth c Z al0 ad0 ad al H locs cells slots ls cx hrc hec w x0 hS hl hL (okS.c trivial hs.t) hc hsl)
theorem v_l2i {x : Int64} (d : decode (kC k) pc = .ok (.l2i, 1)) (K : V g k dd rc rs (pc + 1) L (pI x.toInt32 :: st) h Q E) : V g k dd rc rs (pc) L (pL x :: st) h Q E := by
  intro p l e R s m args below meth c Z al0 ad0 ad al H locs cells slots ls cx hrc hec w x0 hS hl hL hs hc hsl
  exact lv_l2i cx.1 cx.2.1 d rfl (K p l e R s m args below meth c Z al0 ad0 ad al H locs cells slots ls cx hrc hec w x0 hS hl hL (okS.c trivial hs.t) hc hsl)
theorem v_i2b {x : Int32} (d : decode (kC k) pc = .ok (.i2b, 1)) (K : V g k dd rc rs (pc + 1) L (pI x.toInt8.toInt32 :: st) h Q E) : V g k dd rc rs (pc) L (pI x :: st) h Q E := by
  intro p l e R s m args below meth c Z al0 ad0 ad al H locs cells slots ls cx hrc hec w x0 hS hl hL hs hc hsl
  exact lv_i2b cx.1 cx.2.1 d rfl (K p l e R s m args below meth c Z al0 ad0 ad al H locs cells slots ls cx hrc hec w x0 hS hl hL (okS.c trivial hs.t) hc hsl)
theorem v_i2c {x : Int32} (d : decode (kC k) pc = .ok (.i2c, 1)) (K : V g k dd rc rs (pc + 1) L (pI (x.toUInt32 % 65536).toInt32 :: st) h Q E) : V g k dd rc rs (pc) L (pI x :: st) h Q E := by
  intro p l e R s m args below meth c Z al0 ad0 ad al H locs cells slots ls cx hrc hec w x0 hS hl hL hs hc hsl
  exact lv_i2c cx.1 cx.2.1 d rfl (K p l e R s m args below meth c Z al0 ad0 ad al H locs cells slots ls cx hrc hec w x0 hS hl hL (okS.c trivial hs.t) hc hsl)
theorem v_lcmp {x y : Int64} (d : decode (kC k) pc = .ok (.lcmp, 1)) (K : V g k dd rc rs (pc + 1) L (pI (lg_cmp x y) :: st) h Q E) : V g k dd rc rs (pc) L (pL y :: pL x :: st) h Q E := by
  intro p l e R s m args below meth c Z al0 ad0 ad al H locs cells slots ls cx hrc hec w x0 hS hl hL hs hc hsl
  exact W.lcmp cx.1 cx.2.1 d (K p l e R s m args below meth c Z al0 ad0 ad al H locs cells slots ls cx hrc hec w x0 hS hl hL (okS.c trivial hs.t.t) hc hsl)
theorem v_dup {v : PV} (d : decode (kC k) pc = .ok (.dup, 1)) (hv : ct v = 1) (K : V g k dd rc rs (pc + 1) L (v :: v :: st) h Q E) : V g k dd rc rs (pc) L (v :: st) h Q E := by
  intro p l e R s m args below meth c Z al0 ad0 ad al H locs cells slots ls cx hrc hec w x0 hS hl hL hs hc hsl
  exact lv_dup cx.1 cx.2.1 d ((em_cat ad v).trans hv) (K p l e R s m args below meth c Z al0 ad0 ad al H locs cells slots ls cx hrc hec w x0 hS hl hL (okS.c hs.hd hs) hc hsl)
theorem v_pop {v : PV} (d : decode (kC k) pc = .ok (.pop, 1)) (hv : ct v = 1) (K : V g k dd rc rs (pc + 1) L (st) h Q E) : V g k dd rc rs (pc) L (v :: st) h Q E := by
  intro p l e R s m args below meth c Z al0 ad0 ad al H locs cells slots ls cx hrc hec w x0 hS hl hL hs hc hsl
  exact lv_pop cx.1 cx.2.1 d ((em_cat ad v).trans hv) (K p l e R s m args below meth c Z al0 ad0 ad al H locs cells slots ls cx hrc hec w x0 hS hl hL hs.t hc hsl)
theorem v_dup_x1 {v u : PV} (d : decode (kC k) pc = .ok (.dup_x1, 1)) (hv : ct v = 1) (hu : ct u = 1) (K : V g k dd rc rs (pc + 1) L (v :: u :: v :: st) h Q E) : V g k dd rc rs (pc) L (v :: u :: st) h Q E := by
  intro p l e R s m args below meth c Z al0 ad0 ad al H locs cells slots ls cx hrc hec w x0 hS hl hL hs hc hsl
  exact lv_dup_x1 cx.1 cx.2.1 d ((em_cat ad v).trans hv) ((em_cat ad u).trans hu) (K p l e R s m args below meth c Z al0 ad0 ad al H locs cells slots ls cx hrc hec w x0 hS hl hL (okS.c hs.hd (okS.c hs.t.hd (okS.c hs.hd hs.t.t))) hc hsl)
theorem v_dup2 {v u : PV} (d : decode (kC k) pc = .ok (.dup2, 1)) (hv : ct v = 1) (hu : ct u = 1) (K : V g k dd rc rs (pc + 1) L (v :: u :: v :: u :: st) h Q E) : V g k dd rc rs (pc) L (v :: u :: st) h Q E := by
  intro p l e R s m args below meth c Z al0 ad0 ad al H locs cells slots ls cx hrc hec w x0 hS hl hL hs hc hsl
  exact lv_dup2_11 cx.1 cx.2.1 d ((em_cat ad v).trans hv) ((em_cat ad u).trans hu) (K p l e R s m args below meth c Z al0 ad0 ad al H locs cells slots ls cx hrc hec w x0 hS hl hL (okS.c hs.hd (okS.c hs.t.hd hs)) hc hsl)
theorem v_if_eq {x : Int32} {off : Int} (t : Nat) (d : decode (kC k) pc = .ok (.ifCond .eq off, 3)) (ht : (pc : Int) + off = (t : Int)) (KT : x = 0 → V g k dd rc rs (t) L (st) h Q E) (KF : ¬ (x = 0) → V g k dd rc rs (pc + 3) L (st) h Q E) : V g k dd rc rs (pc) L (pI x :: st) h Q E := by
  intro p l e R s m args below meth c Z al0 ad0 ad al H locs cells slots ls cx hrc hec w x0 hS hl hL hs hc hsl
  exact lv_if_eq cx.1 cx.2.1 d ht (fun q => KT q p l e R s m args below meth c Z al0 ad0 ad al H locs cells slots ls cx hrc hec w x0 hS hl hL hs.t hc hsl) (fun q => KF q p l e R s m args below meth c Z al0 ad0 ad al H locs cells slots ls cx hrc hec w x0 hS hl hL hs.t hc hsl)
theorem v_icmp_eq {x y : Int32} {off : Int} (t : Nat) (d : decode (kC k) pc = .ok (.if_icmp .eq off, 3)) (ht : (pc : Int) + off = (t : Int)) (KT : x = y → V g k dd rc rs (t) L (st) h Q E) (KF : ¬ (x = y) → V g k dd rc rs (pc + 3) L (st) h Q E) : V g k dd rc rs (pc) L (pI y :: pI x :: st) h Q E := by
  intro p l e R s m args below meth c Z al0 ad0 ad al H locs cells slots ls cx hrc hec w x0 hS hl hL hs hc hsl
  exact lv_icmp_eq cx.1 cx.2.1 d ht (fun q => KT q p l e R s m args below meth c Z al0 ad0 ad al H locs cells slots ls cx hrc hec w x0 hS hl hL hs.t.t hc hsl) (fun q => KF q p l e R s m args below meth c Z al0 ad0 ad al H locs cells slots ls cx hrc hec w x0 hS hl hL hs.t.t hc hsl)
theorem v_if_ne {x : Int32} {off : Int} (t : Nat) (d : decode (kC k) pc = .ok (.ifCond .ne off, 3)) (ht : (pc : Int) + off = (t : Int)) (KT : ¬ x = 0 → V g k dd rc rs (t) L (st) h Q E) (KF : x = 0 → V g k dd rc rs (pc + 3) L (st) h Q E) : V g k dd rc rs (pc) L (pI x :: st) h Q E := by
  intro p l e R s m args below meth c Z al0 ad0 ad al H locs cells slots ls cx hrc hec w x0 hS hl hL hs hc hsl
  exact lv_if_ne cx.1 cx.2.1 d ht (fun q => KT q p l e R s m args below meth c Z al0 ad0 ad al H locs cells slots ls cx hrc hec w x0 hS hl hL hs.t hc hsl) (fun q => KF q p l e R s m args below meth c Z al0 ad0 ad al H locs cells slots ls cx hrc hec w x0 hS hl hL hs.t hc hsl)
theorem v_icmp_ne {x y : Int32} {off : Int} (t : Nat) (d : decode (kC k) pc = .ok (.if_icmp .ne off, 3)) (ht : (pc : Int) + off = (t : Int)) (KT : ¬ x = y → V g k dd rc rs (t) L (st) h Q E) (KF : x = y → V g k dd rc rs (pc + 3) L (st) h Q E) : V g k dd rc rs (pc) L (pI y :: pI x :: st) h Q E := by
  intro p l e R s m args below meth c Z al0 ad0 ad al H locs cells slots ls cx hrc hec w x0 hS hl hL hs hc hsl
  exact lv_icmp_ne cx.1 cx.2.1 d ht (fun q => KT q p l e R s m args below meth c Z al0 ad0 ad al H locs cells slots ls cx hrc hec w x0 hS hl hL hs.t.t hc hsl) (fun q => KF q p l e R s m args below meth c Z al0 ad0 ad al H locs cells slots ls cx hrc hec w x0 hS hl hL hs.t.t hc hsl)
theorem v_if_lt {x : Int32} {off : Int} (t : Nat) (d : decode (kC k) pc = .ok (.ifCond .lt off, 3)) (ht : (pc : Int) + off = (t : Int)) (KT : x < 0 → V g k dd rc rs (t) L (st) h Q E) (KF : ¬ (x < 0) → V g k dd rc rs (pc + 3) L (st) h Q E) : V g k dd rc rs (pc) L (pI x :: st) h Q E := by
  intro p l e R s m args below meth c Z al0 ad0 ad al H locs cells slots ls cx hrc hec w x0 hS hl hL hs hc hsl
  exact lv_if_lt cx.1 cx.2.1 d ht (fun q => KT q p l e R s m args below meth c Z al0 ad0 ad al H locs cells slots ls cx hrc hec w x0 hS hl hL hs.t hc hsl) (fun q => KF q p l e R s m args below meth c Z al0 ad0 ad al H locs cells slots ls cx hrc hec w x0 hS hl hL hs.t hc hsl)
theorem v_icmp_lt {x y : Int32} {off : Int} (t : Nat) (d : decode (kC k) pc = .ok (.if_icmp .lt off, 3)) (ht : (pc : Int) + off = (t : Int)) (KT : x < y → V g k dd rc rs (t) L (st) h Q E) (KF : ¬ (x < y) → V g k dd rc rs (pc + 3) L (st) h Q E) : V g k dd rc rs (pc) L (pI y :: pI x :: st) h Q E := by
  intro p l e R s m args below meth c Z al0 ad0 ad al H locs cells slots ls cx hrc hec w x0 hS hl hL hs hc hsl
  exact lv_icmp_lt cx.1 cx.2.1 d ht (fun q => KT q p l e R s m args below meth c Z al0 ad0 ad al H locs cells slots ls cx hrc hec w x0 hS hl hL hs.t.t hc hsl) (fun q => KF q p l e R s m args below meth c Z al0 ad0 ad al H locs cells slots ls cx hrc hec w x0 hS hl hL hs.t.t hc hsl)
theorem v_if_ge {x : Int32} {off : Int} (t : Nat) (d : decode (kC k) pc = .ok (.ifCond .ge off, 3)) (ht : (pc : Int) + off = (t : Int)) (KT : 0 ≤ x → V g k dd rc rs (t) L (st) h Q E) (KF : ¬ (0 ≤ x) → V g k dd rc rs (pc + 3) L (st) h Q E) : V g k dd rc rs (pc) L (pI x :: st) h Q E := by
  intro p l e R s m args below meth c Z al0 ad0 ad al H locs cells slots ls cx hrc hec w x0 hS hl hL hs hc hsl
  exact lv_if_ge cx.1 cx.2.1 d ht (fun q => KT q p l e R s m args below meth c Z al0 ad0 ad al H locs cells slots ls cx hrc hec w x0 hS hl hL hs.t hc hsl) (fun q => KF q p l e R s m args below meth c Z al0 ad0 ad al H locs cells slots ls cx hrc hec w x0 hS hl hL hs.t hc hsl)
theorem v_icmp_ge {x y : Int32} {off : Int} (t : Nat) (d : decode (kC k) pc = .ok (.if_icmp .ge off, 3)) (ht : (pc : Int) + off = (t : Int)) (KT : y ≤ x → V g k dd rc rs (t) L (st) h Q E) (KF : ¬ (y ≤ x) → V g k dd rc rs (pc + 3) L (st) h Q E) : V g k dd rc rs (pc) L (pI y :: pI x :: st) h Q E := by
  intro p l e R s m args below meth c Z al0 ad0 ad al H locs cells slots ls cx hrc hec w x0 hS hl hL hs hc hsl
  exact lv_icmp_ge cx.1 cx.2.1 d ht (fun q => KT q p l e R s m args below meth c Z al0 ad0 ad al H locs cells slots ls cx hrc hec w x0 hS hl hL hs.t.t hc hsl) (fun q => KF q p l e R s m args below meth c Z al0 ad0 ad al H locs cells slots ls cx hrc hec w x0 hS hl hL hs.t.t hc hsl)
theorem v_if_gt {x : Int32} {off : Int} (t : Nat) (d : decode (kC k) pc = .ok (.ifCond .gt off, 3)) (ht : (pc : Int) + off = (t : Int)) (KT : 0 < x → V g k dd rc rs (t) L (st) h Q E) (KF : ¬ (0 < x) → V g k dd rc rs (pc + 3) L (st) h Q E) : V g k dd rc rs (pc) L (pI x :: st) h Q E := by
  intro p l e R s m args below meth c Z al0 ad0 ad al H locs cells slots ls cx hrc hec w x0 hS hl hL hs hc hsl
  exact lv_if_gt cx.1 cx.2.1 d ht (fun q => KT q p l e R s m args below meth c Z al0 ad0 ad al H locs cells slots ls cx hrc hec w x0 hS hl hL hs.t hc hsl) (fun q => KF q p l e R s m args below meth c Z al0 ad0 ad al H locs cells slots ls cx hrc hec w x0 hS hl hL hs.t hc hsl)
theorem v_icmp_gt {x y : Int32} {off : Int} (t : Nat) (d : decode (kC k) pc = .ok (.if_icmp .gt off, 3)) (ht : (pc : Int) + off = (t : Int)) (KT : y < x → V g k dd rc rs (t) L (st) h Q E) (KF : ¬ (y < x) → V g k dd rc rs (pc + 3) L (st) h Q E) : V g k dd rc rs (pc) L (pI y :: pI x :: st) h Q E := by
  intro p l e R s m args below meth c Z al0 ad0 ad al H locs cells slots ls cx hrc hec w x0 hS hl hL hs hc hsl
  exact lv_icmp_gt cx.1 cx.2.1 d ht (fun q => KT q p l e R s m args below meth c Z al0 ad0 ad al H locs cells slots ls cx hrc hec w x0 hS hl hL hs.t.t hc hsl) (fun q => KF q p l e R s m args below meth c Z al0 ad0 ad al H locs cells slots ls cx hrc hec w x0 hS hl hL hs.t.t hc hsl)
theorem v_if_le {x : Int32} {off : Int} (t : Nat) (d : decode (kC k) pc = .ok (.ifCond .le off, 3)) (ht : (pc : Int) + off = (t : Int)) (KT : x ≤ 0 → V g k dd rc rs (t) L (st) h Q E) (KF : ¬ (x ≤ 0) → V g k dd rc rs (pc + 3) L (st) h Q E) : V g k dd rc rs (pc) L (pI x :: st) h Q E := by
  intro p l e R s m args below meth c Z al0 ad0 ad al H locs cells slots ls cx hrc hec w x0 hS hl hL hs hc hsl
  exact lv_if_le cx.1 cx.2.1 d ht (fun q => KT q p l e R s m args below meth c Z al0 ad0 ad al H locs cells slots ls cx hrc hec w x0 hS hl hL hs.t hc hsl) (fun q => KF q p l e R s m args below meth c Z al0 ad0 ad al H locs cells slots ls cx hrc hec w x0 hS hl hL hs.t hc hsl)
theorem v_icmp_le {x y : Int32} {off : Int} (t : Nat) (d : decode (kC k) pc = .ok (.if_icmp .le off, 3)) (ht : (pc : Int) + off = (t : Int)) (KT : x ≤ y → V g k dd rc rs (t) L (st) h Q E) (KF : ¬ (x ≤ y) → V g k dd rc rs (pc + 3) L (st) h Q E) : V g k dd rc rs (pc) L (pI y :: pI x :: st) h Q E := by
  intro p l e R s m args below meth c Z al0 ad0 ad al H locs cells slots ls cx hrc hec w x0 hS hl hL hs hc hsl
  exact lv_icmp_le cx.1 cx.2.1 d ht (fun q => KT q p l e R s m args below meth c Z al0 ad0 ad al H locs cells slots ls cx hrc hec w x0 hS hl hL hs.t.t hc hsl) (fun q => KF q p l e R s m args below meth c Z al0 ad0 ad al H locs cells slots ls cx hrc hec w x0 hS hl hL hs.t.t hc hsl)
theorem v_goto {off : Int} (t : Nat) (d : decode (kC k) pc = .ok (.goto off, 3)) (ht : (pc : Int) + off = (t : Int)) (K : V g k dd rc rs (t) L (st) h Q E) : V g k dd rc rs (pc) L (st) h Q E := by
  intro p l e R s m args below meth c Z al0 ad0 ad al H locs cells slots ls cx hrc hec w x0 hS hl hL hs hc hsl
  exact lv_goto cx.1 cx.2.1 d ht (K p l e R s m args below meth c Z al0 ad0 ad al H locs cells slots ls cx hrc hec w x0 hS hl hL hs hc hsl)
theorem v_ifnull {o : Option Ad} {off : Int} (t : Nat) (d : decode (kC k) pc = .ok (.ifnull off, 3)) (ht : (pc : Int) + off = (t : Int)) (KN : o = none → V g k dd rc rs (t) L (st) h Q E) (KS : ∀ a, o = some a → V g k dd rc rs (pc + 3) L (st) h Q E) : V g k dd rc rs (pc) L (pO o :: st) h Q E := by
  intro p l e R s m args below meth c Z al0 ad0 ad al H locs cells slots ls cx hrc hec w x0 hS hl hL hs hc hsl
  cases o with
  | none => exact lv_ifnullN cx.1 cx.2.1 d ht (KN rfl p l e R s m args below meth c Z al0 ad0 ad al H locs cells slots ls cx hrc hec w x0 hS hl hL hs.t hc hsl)
  | some a => exact lv_ifnull cx.1 cx.2.1 d (KS a rfl p l e R s m args below meth c Z al0 ad0 ad al H locs cells slots ls cx hrc hec w x0 hS hl hL hs.t hc hsl)
theorem v_ifnonnull {o : Option Ad} {off : Int} (t : Nat) (d : decode (kC k) pc = .ok (.ifnonnull off, 3)) (ht : (pc : Int) + off = (t : Int)) (KN : o = none → V g k dd rc rs (pc + 3) L (st) h Q E) (KS : ∀ a, o = some a → V g k dd rc rs (t) L (st) h Q E) : V g k dd rc rs (pc) L (pO o :: st) h Q E := by
  intro p l e R s m args below meth c Z al0 ad0 ad al H locs cells slots ls cx hrc hec w x0 hS hl hL hs hc hsl
  cases o with
  | none => exact lv_ifnonnullN cx.1 cx.2.1 d (KN rfl p l e R s m args below meth c Z al0 ad0 ad al H locs cells slots ls cx hrc hec w x0 hS hl hL hs.t hc hsl)
  | some a => exact lv_ifnonnull cx.1 cx.2.1 d ht (KS a rfl p l e R s m args below meth c Z al0 ad0 ad al H locs cells slots ls cx hrc hec w x0 hS hl hL hs.t hc hsl)
theorem v_tableOut {dflt lo hi : Int} {offs : Array Int} {len : Nat} {x : Int32} (t : Nat) (d : decode (kC k) pc = .ok (.tableswitch dflt lo hi offs, len)) (hx : x.toInt < lo ∨ hi < x.toInt) (ht : (pc : Int) + dflt = (t : Int)) (K : V g k dd rc rs (t) L (st) h Q E) : V g k dd rc rs (pc) L (pI x :: st) h Q E := by
  intro p l e R s m args below meth c Z al0 ad0 ad al H locs cells slots ls cx hrc hec w x0 hS hl hL hs hc hsl
  exact lv_tableOut cx.1 cx.2.1 d hx ht (K p l e R s m args below meth c Z al0 ad0 ad al H locs cells slots ls cx hrc hec w x0 hS hl hL hs.t hc hsl)
theorem v_tableIn {dflt lo hi : Int} {offs : Array Int} {len : Nat} {x : Int32} {off : Int} (t : Nat) (d : decode (kC k) pc = .ok (.tableswitch dflt lo hi offs, len)) (h1 : ¬ x.toInt < lo) (h2 : ¬ hi < x.toInt) (ho : offs[(x.toInt - lo).toNat]? = some off) (ht : (pc : Int) + off = (t : Int)) (K : V g k dd rc rs (t) L (st) h Q E) : V g k dd rc rs (pc) L (pI x :: st) h Q E := by
  intro p l e R s m args below meth c Z al0 ad0 ad al H locs cells slots ls cx hrc hec w x0 hS hl hL hs hc hsl
  exact lv_tableIn cx.1 cx.2.1 d h1 h2 ho ht (K p l e R s m args below meth c Z al0 ad0 ad al H locs cells slots ls cx hrc hec w x0 hS hl hL hs.t hc hsl)
theorem v_lookup {dflt : Int} {ps : Array (Int × Int)} {len : Nat} {x : Int32} {off : Int} (t : Nat) (d : decode (kC k) pc = .ok (.lookupswitch dflt ps, len)) (hp : (ps.toList.zip (ps.toList.drop 1)).all (fun (a, next) => a.1 < next.1) = true) (ho : Op.lookupswitch.offset ps.toList dflt x.toInt = off) (ht : (pc : Int) + off = (t : Int)) (K : V g k dd rc rs (t) L (st) h Q E) : V g k dd rc rs (pc) L (pI x :: st) h Q E := by
  intro p l e R s m args below meth c Z al0 ad0 ad al H locs cells slots ls cx hrc hec w x0 hS hl hL hs hc hsl
  exact lv_lookup cx.1 cx.2.1 d hp ho ht (K p l e R s m args below meth c Z al0 ad0 ad al H locs cells slots ls cx hrc hec w x0 hS hl hL hs.t hc hsl)
theorem v_ireturn {x : Int32} {ty : FieldType} (d : decode (kC k) pc = .ok (.ireturn, 1)) (hr : kR k = some ty) (hn : narrow ty (.int x) = .int x) (q : Q (some (pI x)) h) : V g k dd rc rs pc L [pI x] h Q E := by
  intro p l e R s m args below meth c Z al0 ad0 ad al H locs cells slots ls cx hrc hec w x0 hS hl hL hs hc hsl
  exact hrc (some (pI x)) h ad al H locs cells slots pc ls q w x0 hS (fun v hv => by cases hv; trivial) (by omega) (by omega) ⟨d, ty, hr, hn⟩
theorem v_lreturn {x : Int64} (d : decode (kC k) pc = .ok (.lreturn, 1)) (hr : kR k = some .long) (q : Q (some (pL x)) h) : V g k dd rc rs pc L [pL x] h Q E := by
  intro p l e R s m args below meth c Z al0 ad0 ad al H locs cells slots ls cx hrc hec w x0 hS hl hL hs hc hsl
  exact hrc (some (pL x)) h ad al H locs cells slots pc ls q w x0 hS (fun v hv => by cases hv; trivial) (by omega) (by omega) ⟨d, hr⟩
theorem v_areturn {o : Option Ad} {ty : FieldType} (d : decode (kC k) pc = .ok (.areturn, 1)) (hr : kR k = some ty) (hn : (∃ n, ty = .object n) ∨ ∃ u, ty = .array u) (q : Q (some (pO o)) h) : V g k dd rc rs pc L [pO o] h Q E := by
  intro p l e R s m args below meth c Z al0 ad0 ad al H locs cells slots ls cx hrc hec w x0 hS hl hL hs hc hsl
  exact hrc (some (pO o)) h ad al H locs cells slots pc ls q w x0 hS (fun v hv => by cases hv; exact hs.hd) (by omega) (by omega) ⟨d, ty, hr, hn⟩
theorem v_return (d : decode (kC k) pc = .ok (.return_, 1)) (hr : kR k = none) (q : Q none h) : V g k dd rc rs pc L [] h Q E := by
  intro p l e R s m args below meth c Z al0 ad0 ad al H locs cells slots ls cx hrc hec w x0 hS hl hL hs hc hsl
  exact hrc none h ad al H locs cells slots pc ls q w x0 hS (fun v hv => by cases hv) (by omega) (by omega) ⟨d, hr⟩
theorem v_loc (L' : List (Nat × PV)) (hq : L'.map (fun q => lk q.1 L) = L'.map (fun q => some q.2)) (K : V g k dd rc rs pc L' st h Q E) : V g k dd rc rs pc L st h Q E := by
  intro p l e R s m args below meth c Z al0 ad0 ad al H locs cells slots ls cx hrc hec w x0 hS hl hL hs hc hsl
  have key : ∀ q ∈ L', q ∈ L := fun q hq2 => lk_mem ((List.map_inj_left.mp hq) q hq2)
  exact K p l e R s m args below meth c Z al0 ad0 ad al H locs cells slots ls cx hrc hec w x0 hS ⟨hl.1, hl.2.1, fun q hq2 => by
    obtain ⟨q1, h1, h2⟩ := List.mem_map.mp hq2
    exact hl.2.2 q (List.mem_map.mpr ⟨q1, key q1 h1, h2⟩)⟩ (fun q hq2 => hL q (key q hq2)) hs hc hsl
theorem v_less {rc' rs' : Nat} (h1 : rc' ≤ rc) (h2 : rs' ≤ rs) (K : V g k dd rc' rs' pc L st h Q E) : V g k dd rc rs pc L st h Q E := by
  intro p l e R s m args below meth c Z al0 ad0 ad al H locs cells slots ls cx hrc hec w x0 hS hl hL hs hc hsl
  exact K p l e R s m args below meth c Z al0 ad0 ad al H locs cells slots ls cx hrc hec w x0 hS hl hL hs (by omega) (by omega)
theorem v_at {pc' : Nat} (e : pc = pc') (K : V g k dd rc rs pc' L st h Q E) : V g k dd rc rs pc L st h Q E := e ▸ K
end VR1
end
section
/-! the world under the heap's moves -/
theorem nF_of {ci : Nat} {q : vw_C} (hc : vwCl[ci]? = some q) : nF ci = q.2.2 := by simp [nF, hc]
theorem ce_obj {cA : Nat → ClassId} {ad : Ad → Nat} {h : Hp} {a : Ad} {ci : Nat} (hp : pk a.1 = .inl ci) : ce cA ad h a = .inr (ci, (List.range (nF ci)).map fun k => fv ad h ci a k) := by
  unfold ce; rw [hp]
theorem ce_int {cA : Nat → ClassId} {ad : Ad → Nat} {h : Hp} {a : Ad} {t : Nat} (hp : pk a.1 = .inr t) (ht : t < 3) : ce cA ad h a = .inl (cA t, ln h a, .inl (fun j => vi h a j)) := by
  unfold ce; rw [hp]; simp [ht]
theorem ce_ref {cA : Nat → ClassId} {ad : Ad → Nat} {h : Hp} {a : Ad} {t : Nat} (hp : pk a.1 = .inr t) (ht : ¬ t < 3) : ce cA ad h a = .inl (cA t, ln h a, .inr (.inr (.inr (.inr fun j => (vr h a j).map ad)))) := by
  unfold ce; rw [hp]; simp [ht]
theorem fv_congr {ad ad' : Ad → Nat} {h h' : Hp} {ci : Nat} {a : Ad} {k : Nat} (h1 : vi h' a k = vi h a k) (h2 : vl h' a k = vl h a k) (h3 : er ad' (vr h' a k) = er ad (vr h a k)) : fv ad' h' ci a k = fv ad h ci a k := by
  unfold fv; rw [h1, h2, h3]
theorem ce_congr {cA : Nat → ClassId} {ad ad' : Ad → Nat} {h h' : Hp} {a : Ad} (h0 : ln h' a = ln h a) (h1 : ∀ k, vi h' a k = vi h a k) (h2 : ∀ k, vl h' a k = vl h a k) (h3 : ∀ k, (vr h' a k).map ad' = (vr h a k).map ad) : ce cA ad' h' a = ce cA ad h a := by
  unfold ce
  cases pk a.1 with
  | inl ci =>
    have e : (fun k => fv ad' h' ci a k) = fun k => fv ad h ci a k := funext fun k => fv_congr (h1 k) (h2 k) (by unfold er; rw [h3 k])
    simp only [e]
  | inr t =>
    have e1 : (fun j => vi h' a j) = fun j => vi h a j := funext h1
    have e2 : (fun j => (vr h' a j).map ad') = fun j => (vr h a j).map ad := funext h3
    simp only [h0, e1, e2]
theorem wl_get {cA : Nat → ClassId} {ad : Ad → Nat} {h : Hp} {al : List Ad} {n : Nat} {a : Ad} (hn : al[n]? = some a) : (wl cA ad h al)[n]? = some (ad a, ce cA ad h a) := by
  unfold wl; rw [List.getElem?_map, hn]; rfl
theorem wl_set {cA : Nat → ClassId} {ad : Ad → Nat} {h h' : Hp} {al : List Ad} {n : Nat} {a : Ad} {A : Nat → Prop} (hD : va_D A (wl cA ad h al)) (hn : al[n]? = some a) (hb : ∀ b ∈ al, b ≠ a → ce cA ad h' b = ce cA ad h b) : (wl cA ad h al).set n (ad a, ce cA ad h' a) = wl cA ad h' al := by
  apply List.ext_getElem?
  intro j
  have hl := (List.getElem?_eq_some_iff.mp (wl_get (cA := cA) (ad := ad) (h := h) hn)).1
  by_cases hj : j = n
  · subst hj
    rw [List.getElem?_set_self hl, wl_get hn]
  · rw [List.getElem?_set_ne (Ne.symm hj)]
    cases hb2 : al[j]? with
    | none => unfold wl; rw [List.getElem?_map, List.getElem?_map, hb2]; rfl
    | some b =>
      rw [wl_get hb2, wl_get hb2]
      have hne : b ≠ a := by
        intro e
        subst e
        exact hj (hD.1 j n _ _ (wl_get hb2) (wl_get hn) rfl)
      rw [hb b (List.mem_of_getElem? hb2) hne]
/-- a cell's contents move -/
theorem Wo.set {g : G0} {ad : Ad → Nat} {al : List Ad} {h h' : Hp} {H H' : Heap} {a : Ad} {n : Nat} (w : Wo g ad al h H) (hn : al[n]? = some a) (hcn : cn h' = cn h) (hb : ∀ b ∈ al, b ≠ a → ce (gA g) ad h' b = ce (gA g) ad h b)
    (hr : ∀ b ∈ al, ∀ k, okr h' (vr h' b k)) (hP : va_P (gD g) vwCl ((wl (gA g) ad h al).set n (ad a, ce (gA g) ad h' a)) H') (hD : va_D (gF g) ((wl (gA g) ad h al).set n (ad a, ce (gA g) ad h' a))) {s0 : Heap} {locs : List Loc} (hS : va_S (gF g) s0 H' locs) (hs0 : (gG g).size ≤ s0.size) (hk : ∀ q, q < (gG g).size → H'[q]? = (gG g)[q]?) : Wo g ad al h' H' := by
  have e := wl_set (cA := gA g) (h' := h') w.2.2.2.2.1 hn hb
  rw [e] at hP hD
  exact ⟨fun b => by rw [hcn]; exact w.1 b, hr, w.2.2.1, hP, hD, Nat.le_trans hs0 hS.1, hk⟩
theorem va_S.ground {g : G0} {s0 H : Heap} {locs : List Loc} (hS : va_S (gF g) s0 H locs) (hs0 : (gG g).size ≤ s0.size) {H' : Heap} {locs' : List Loc} (hS' : va_S (gF g) s0 H' locs') (hk : ∀ q, q < (gG g).size → H[q]? = (gG g)[q]?) : ∀ q, q < (gG g).size → H'[q]? = (gG g)[q]? := by
  intro q hq
  have hq0 : q < s0.size := Nat.lt_of_lt_of_le hq hs0
  have n : ¬ gF g q := Nat.not_le.mpr hq
  rw [hS'.2.1 q hq0 n, ← hS.2.1 q hq0 n]
  exact hk q hq
theorem okr_of {h h' : Hp} (hcn : cn h' = cn h) {o : Option Ad} (ho : okr h o) : okr h' o := fun a ha => by rw [hcn]; exact ho a ha
theorem okv_of {h h' : Hp} (hcn : cn h' = cn h) {v : PV} (ho : okv h v) : okv h' v := by
  rcases v with x | x | o
  · trivial
  · trivial
  · exact okr_of hcn ho
theorem okS_of {h h' : Hp} (hcn : cn h' = cn h) {st : List PV} (ho : okS h st) : okS h' st := fun v hv => okv_of hcn (ho v hv)
theorem okL_of {h h' : Hp} (hcn : cn h' = cn h) {L : List (Nat × PV)} (ho : okL h L) : okL h' L := fun v hv => okv_of hcn (ho v hv)
theorem range_set {α : Type} {N k : Nat} {f f' : Nat → α} {v : α} (hk : k < N) (hv : f' k = v) (ho : ∀ j, j ≠ k → f' j = f j) : ((List.range N).map f).set k v = (List.range N).map f' := by
  apply List.ext_getElem?
  intro j
  by_cases hj : j = k
  · subst hj
    rw [List.getElem?_set_self (by simpa using hk), List.getElem?_map, List.getElem?_range hk]
    exact congrArg some hv.symm
  · rw [List.getElem?_set_ne (Ne.symm hj), List.getElem?_map, List.getElem?_map]
    by_cases hl : j < N
    · rw [List.getElem?_range hl]
      exact congrArg some (ho j hj).symm
    · rw [List.getElem?_eq_none (by simpa using Nat.le_of_not_lt hl)]
      rfl
theorem map_up (f f' : Nat → Option Ad) (ad : Ad → Nat) (i : Nat) (o : Option Ad) (hv : f' i = o) (ho : ∀ j, j ≠ i → f' j = f j) : va_up (fun j => (f j).map ad) i (o.map ad) = fun j => (f' j).map ad := by
  funext j
  unfold va_up
  by_cases hj : j = i
  · rw [if_pos hj, hj, hv]
  · rw [if_neg hj, ho j hj]
theorem int_up (f f' : Nat → Int32) (i : Nat) (x : Int32) (hv : f' i = x) (ho : ∀ j, j ≠ i → f' j = f j) : upd f i x = f' := by
  funext j
  by_cases hj : j = i
  · subst hj; rw [pk_us, hv]
  · rw [pk_un hj, ho j hj]
theorem tyl_at (cA : Nat → ClassId) {t : Nat} (ht : t < 6) : (tyl cA)[t]? = some (cA t, aty t) := by
  unfold tyl; rw [List.getElem?_map, List.getElem?_range ht]; rfl
theorem er_inj {g : G0} {ad : Ad → Nat} {al : List Ad} {h : Hp} {H : Heap} (w : Wo g ad al h H) {a b : Ad} (ha : a ∈ al) (hb : b ∈ al) (e : ad a = ad b) : a = b := by
  obtain ⟨n, hn⟩ := List.getElem?_of_mem ha
  obtain ⟨m, hm⟩ := List.getElem?_of_mem hb
  have := w.2.2.2.2.1.1 n m _ _ (wl_get hn) (wl_get hm) e
  subst this
  rw [hn] at hm
  exact Option.some.inj hm
section VR2
variable {g : G0} {k : Kf} {dd rc rs pc : Nat} {L : List (Nat × PV)} {st : List PV} {h : Hp} {Q : Option PV → Hp → Prop} {E : EP}
/-- a field is read -/
theorem v_get {i ci f : Nat} {ty : FieldType} {fin nest : Bool} {a : Ad} (v : PV) (hf : FL (kO k) i ci f ty fin nest) (d : decode (kC k) pc = .ok (.getfield i, 3)) (hp : pk a.1 = .inl ci) (ha : a.2 < cn h a.1) (h64 : a.1 < 64)
    (hv : ∀ ad, em ad v = fv ad h ci a f) (hok : okv h v) (K : V g k dd rc rs (pc + 3) L (v :: st) h Q E) : V g k dd rc rs pc L (pR a :: st) h Q E := by
  intro p l e R s m args below meth c Z al0 ad0 ad al H locs cells slots ls cx hrc hec w x0 hS hl hL hs hc hsl
  have K2 := K p l e R s m args below meth c Z al0 ad0 ad al H locs cells slots ls cx hrc hec w x0 hS hl hL (okS.c hok hs.t) hc hsl
  obtain ⟨hx, hb, hml, hown, hts, hgd, -⟩ := cx
  obtain ⟨ref, q, hc2, hk2, -, -, hlink, hsame⟩ := hf
  obtain ⟨n, hn⟩ := List.getElem?_of_mem ((w.1 a).mpr ⟨ha, h64⟩)
  have he := wl_get (cA := gA g) (ad := ad) (h := h) hn
  rw [ce_obj hp] at he
  have hfs : ((List.range (nF ci)).map fun k => fv ad h ci a k)[f]? = some (em ad v) := by
    rw [List.getElem?_map, List.getElem?_range (by rw [nF_of hc2]; exact hk2), hv ad]; rfl
  have hsm : ∀ x, s.fieldFound? (q.2.1 f).1 (q.2.1 f).2.1 (q.2.1 f).2.2.1 = some x → s.fieldFound? ref (q.2.1 f).2.1 (q.2.1 f).2.2.1 = some x := by
    rcases hsame with rfl | z
    · exact fun _ h9 => h9
    · exact u_same (hts _ z)
  rcases hlink with ⟨-, z⟩ | ⟨-, host, z⟩
  · exact va_get hx hb hts (cf_all ci q hc2).1 hown hgd.1 w.2.2.2.1 n he hc2 f hk2 (hts _ z) hsm hfs d K2
  · exact va_getN hx hb hts (cf_all ci q hc2).1 hown hgd.1 w.2.2.2.1 n he hc2 f hk2 (va_Nw.use rfl (hgd.2.1 _ z)) hsm hfs d K2
theorem v_getI {i ci f : Nat} {ty : FieldType} {fin nest : Bool} {a : Ad} (hf : FL (kO k) i ci f ty fin nest) (d : decode (kC k) pc = .ok (.getfield i, 3)) (hp : pk a.1 = .inl ci) (hk : fk ci f = 0) (h64 : a.1 < 64) (ha : a.2 < cn h a.1)
    (K : V g k dd rc rs (pc + 3) L (pI (vi h a f) :: st) h Q E) : V g k dd rc rs pc L (pR a :: st) h Q E :=
  v_get (pI (vi h a f)) hf d hp ha h64 (fun ad => by unfold fv; rw [hk]; rfl) trivial K
theorem v_getL {i ci f : Nat} {ty : FieldType} {fin nest : Bool} {a : Ad} (hf : FL (kO k) i ci f ty fin nest) (d : decode (kC k) pc = .ok (.getfield i, 3)) (hp : pk a.1 = .inl ci) (hk : fk ci f = 1) (h64 : a.1 < 64) (ha : a.2 < cn h a.1)
    (K : V g k dd rc rs (pc + 3) L (pL (vl h a f) :: st) h Q E) : V g k dd rc rs pc L (pR a :: st) h Q E :=
  v_get (pL (vl h a f)) hf d hp ha h64 (fun ad => by unfold fv; rw [hk]; rfl) trivial K
theorem v_getR {i ci f : Nat} {ty : FieldType} {fin nest : Bool} {a : Ad} (o : Option Ad) (hf : FL (kO k) i ci f ty fin nest) (d : decode (kC k) pc = .ok (.getfield i, 3)) (hp : pk a.1 = .inl ci) (hk : fk ci f = 2) (h64 : a.1 < 64) (ha : a.2 < cn h a.1) (ho : vr h a f = o)
    (K : V g k dd rc rs (pc + 3) L (pO o :: st) h Q E) : V g k dd rc rs pc L (pR a :: st) h Q E := by
  intro p l e R s m args below meth c Z al0 ad0 ad al H locs cells slots ls cx hrc hec w x0 hS hl hL hs hc hsl
  have hok : okv h (pO o) := by
    have z := w.2.1 a ((w.1 a).mpr ⟨ha, h64⟩) f
    rw [ho] at z
    exact z
  exact v_get (pO o) hf d hp ha h64 (fun ad => by unfold fv; rw [hk, ho]; rfl) hok K p l e R s m args below meth c Z al0 ad0 ad al H locs cells slots ls cx hrc hec w x0 hS hl hL hs hc hsl
/-- a field is written -/
theorem v_put {i ci f : Nat} {ty : FieldType} {fin nest : Bool} {a : Ad} (h' : Hp) (v : PV) (hf : FL (kO k) i ci f ty fin nest) (hfin : fin = true → nest = false ∧ kN k = "<init>" ∧ ∃ q, vwCl[ci]? = some q ∧ (q.2.1 f).1 = kO k) (d : decode (kC k) pc = .ok (.putfield i, 3)) (hp : pk a.1 = .inl ci) (ha : a.2 < cn h a.1) (h64 : a.1 < 64)
    (hn : ∀ ad, narrow ty (em ad v) = em ad v) (hfit : ∀ ad, fits ty (em ad v) = true) (hcn : cn h' = cn h) (hv : ∀ ad, fv ad h' ci a f = em ad v) (hoth : ∀ ad j, j ≠ f → fv ad h' ci a j = fv ad h ci a j)
    (hb : ∀ (cA : Nat → ClassId) ad b, b ≠ a → ce cA ad h' b = ce cA ad h b) (hr : ∀ b j, vr h' b j = vr h b j ∨ ∃ o, v = pO o ∧ vr h' b j = o) (K : V g k dd rc rs (pc + 3) L st h' Q E) : V g k dd rc rs pc L (v :: pR a :: st) h Q E := by
  intro p l e R s m args below meth c Z al0 ad0 ad al H locs cells slots ls cx hrc hec w x0 hS hl hL hs hc hsl
  have K2 := fun H1 locs1 w1 hS1 => K p l e R s m args below meth c Z al0 ad0 ad al H1 locs1 cells slots ls cx hrc hec w1 x0 hS1 hl (okL_of hcn hL) (okS_of hcn hs.t.t) hc hsl
  obtain ⟨hx, hbb, hml, hown, hts, hgd, -, -, hnm, hsz⟩ := cx
  obtain ⟨ref, q, hc2, hk2, hfi, hty, hlink, hsame⟩ := hf
  obtain ⟨n, hnn⟩ := List.getElem?_of_mem ((w.1 a).mpr ⟨ha, h64⟩)
  have he := wl_get (cA := gA g) (ad := ad) (h := h) hnn
  rw [ce_obj hp] at he
  have hkN : f < nF ci := by rw [nF_of hc2]; exact hk2
  have hsm : ∀ x, s.fieldFound? (q.2.1 f).1 (q.2.1 f).2.1 (q.2.1 f).2.2.1 = some x → s.fieldFound? ref (q.2.1 f).2.1 (q.2.1 f).2.2.1 = some x := by
    rcases hsame with rfl | z
    · exact fun _ h9 => h9
    · exact u_same (hts _ z)
  obtain ⟨hin, ⟨ty0, hty0⟩, hnms, -⟩ := cf_all ci q hc2
  have hset : (ad a, (Sum.inr (ci, ((List.range (nF ci)).map fun k => fv ad h ci a k).set f (em ad v)) : va_E)) = (ad a, ce (gA g) ad h' a) := by
    rw [ce_obj hp, range_set hkN (hv ad) (fun j hj => hoth ad j hj)]
  have fin2 : ∀ (H1 : Heap) (locs1 : List Loc), va_P (gD g) vwCl ((wl (gA g) ad h al).set n (ad a, .inr (ci, ((List.range (nF ci)).map fun k => fv ad h ci a k).set f (em ad v)))) H1 → va_D (gF g) ((wl (gA g) ad h al).set n (ad a, .inr (ci, ((List.range (nF ci)).map fun k => fv ad h ci a k).set f (em ad v)))) → va_S (gF g) s.heap H1 locs1 → W p l e R s m args below meth c H1 locs1 cells slots Z (F0 m (pc + 3) ls (st.map (em ad))) := by
    intro H1 locs1 hP hD hS1
    rw [hset] at hP hD
    refine K2 H1 locs1 (w.set hnn hcn (fun b _ hne => hb _ ad b hne) (fun b hbl j => ?_) hP hD hS1 hsz (hS.ground hsz hS1 w.2.2.2.2.2.2)) hS1
    rcases hr b j with z | ⟨o, rfl, z⟩
    · rw [z]; exact okr_of hcn (w.2.1 b hbl j)
    · rw [z]; exact okr_of hcn hs.hd
  rcases hlink with ⟨-, z⟩ | ⟨hne, host, z⟩
  · cases fin with
    | false => exact va_put hx hbb hts hin ty0 hty0 hnms hown hgd.1 w.2.2.2.1 w.2.2.2.2.1 hS n he hc2 f hk2 (hts _ z) hsm hfi hty (hn ad) (hfit ad) (by simpa using hkN) d fin2
    | true =>
      obtain ⟨-, hni, q', hq', hde⟩ := hfin rfl
      have : q' = q := Option.some.inj (hq'.symm.trans hc2)
      subst this
      exact va_putF hx hbb hts hin ty0 hty0 hnms hown hgd.1 w.2.2.2.1 w.2.2.2.2.1 hS n he hc2 f hk2 (hts _ z) hsm hfi (hnm.trans hni) hde hty (hn ad) (hfit ad) (by simpa using hkN) d fin2
  · cases fin with
    | false => exact va_putN hx hbb hts hin ty0 hty0 hnms hown hgd.1 w.2.2.2.1 w.2.2.2.2.1 hS n he hc2 f hk2 (va_Nw.use rfl (hgd.2.1 _ z)) hsm hfi hty (hn ad) (hfit ad) (by simpa using hkN) d fin2
    | true =>
      exact absurd (hne.symm.trans (hfin rfl).1) (by decide)
end VR2
end
section
theorem fv_other {ad : Ad → Nat} {h h' : Hp} {ci : Nat} {a : Ad} {j : Nat} (h1 : vi h' a j = vi h a j) (h2 : vl h' a j = vl h a j) (h3 : vr h' a j = vr h a j) : fv ad h' ci a j = fv ad h ci a j := by
  unfold fv; rw [h1, h2, h3]
theorem ce_other {cA : Nat → ClassId} {ad : Ad → Nat} {h h' : Hp} {b : Ad} (h0 : ln h' b = ln h b) (h1 : ∀ j, vi h' b j = vi h b j) (h2 : ∀ j, vl h' b j = vl h b j) (h3 : ∀ j, vr h' b j = vr h b j) : ce cA ad h' b = ce cA ad h b :=
  ce_congr h0 h1 h2 (fun j => by rw [h3 j])
theorem RA_inj {s : State} {c1 c2 : ClassId} {ty : FieldType} (h1 : va_RA s c1 ty) (h2 : va_RA s c2 ty) : c1 = c2 := by
  cases ty with
  | object C =>
    obtain ⟨k1, p1, -, -, -, f1⟩ := h1
    obtain ⟨k2, p2, -, -, -, f2⟩ := h2
    exact Option.some.inj (f1.symm.trans f2)
  | _ => exact Option.some.inj ((show s.vm.findClass _ = some c1 from h1).symm.trans (show s.vm.findClass _ = some c2 from h2))
def adU (ad : Ad → Nat) (a : Ad) (q : Nat) : Ad → Nat := fun b => if b = a then q else ad b
theorem adU_s (ad : Ad → Nat) (a : Ad) (q : Nat) : adU ad a q a = q := if_pos rfl
theorem adU_n (ad : Ad → Nat) {a b : Ad} (q : Nat) (h : b ≠ a) : adU ad a q b = ad b := if_neg h
/-- a new cell comes -/
theorem Wo.push {g : G0} {ad : Ad → Nat} {al : List Ad} {h : Hp} {H H' : Heap} {p n q : Nat} (w : Wo g ad al h H) (hp : p < 64) {s0 : Heap} {locs locs' : List Loc} (hS : va_S (gF g) s0 H locs) (hS' : va_S (gF g) s0 H' locs') (hs0 : (gG g).size ≤ s0.size)
    (hP : va_P (gD g) vwCl (wl (gA g) ad h al ++ [(q, ce (gA g) (adU ad (p, cn h p) q) (nw h p n) (p, cn h p))]) H') (hD : va_D (gF g) (wl (gA g) ad h al ++ [(q, ce (gA g) (adU ad (p, cn h p) q) (nw h p n) (p, cn h p))])) :
    Wo g (adU ad (p, cn h p) q) (al ++ [(p, cn h p)]) (nw h p n) H' ∧ Ex al ad (al ++ [(p, cn h p)]) (adU ad (p, cn h p) q) := by
  have hnew : (p, cn h p) ∉ al := fun z => Nat.lt_irrefl _ ((w.1 _).mp z).1
  have x : Ex al ad (al ++ [(p, cn h p)]) (adU ad (p, cn h p) q) := by
    refine ⟨fun a ha => ⟨List.mem_append_left _ ha, ?_⟩, fun a ha => ?_⟩
    · exact adU_n ad q (fun e => hnew (by rw [← e]; exact ha))
    · refine adU_n ad q (fun e => ?_)
      rw [e] at ha
      exact absurd hp (Nat.not_lt.mpr ha)
  have hok : ∀ o, okr h o → okr (nw h p n) o := by
    intro o ho a ha
    rcases ho a ha with z | z
    · left
      rw [cn_nw]
      by_cases e : a.1 = p
      · rw [if_pos e, ← e]; omega
      · rw [if_neg e]; exact z
    · exact Or.inr z
  have ew : wl (gA g) ad h al ++ [(q, ce (gA g) (adU ad (p, cn h p) q) (nw h p n) (p, cn h p))] = wl (gA g) (adU ad (p, cn h p) q) (nw h p n) (al ++ [(p, cn h p)]) := by
    unfold wl
    rw [List.map_append, List.map_cons, List.map_nil]
    congr 1
    · apply List.map_congr_left
      intro a ha
      have hne : a ≠ (p, cn h p) := fun e => hnew (by rw [← e]; exact ha)
      rw [adU_n ad q hne]
      congr 1
      refine (ce_congr (by rw [ln_nw, if_neg hne]) (fun j => by rw [vi_nw, if_neg hne]) (fun j => by rw [vl_nw, if_neg hne]) (fun j => ?_)).symm
      rw [vr_nw, if_neg hne]
      have hz := w.okr_al (w.2.1 a ha j)
      cases hv : vr h a j with
      | none => rfl
      | some b =>
        show some _ = some _
        rcases hz b hv with z | z
        · rw [(x.1 b z).2]
        · rw [x.2 b z]
    · rw [adU_s]
  rw [ew] at hP hD
  refine ⟨⟨fun a => ?_, fun a ha j => ?_, fun a ha => (x.2 a ha).trans (w.2.2.1 a ha), hP, hD, Nat.le_trans hs0 hS'.1, hS.ground hs0 hS' w.2.2.2.2.2.2⟩, x⟩
  · rw [List.mem_append, List.mem_singleton, cn_nw]
    constructor
    · rintro (z | rfl)
      · obtain ⟨z1, z2⟩ := (w.1 a).mp z
        refine ⟨?_, z2⟩
        by_cases e : a.1 = p
        · rw [if_pos e, ← e]; omega
        · rw [if_neg e]; exact z1
      · exact ⟨by rw [if_pos rfl]; exact Nat.lt_succ_self _, hp⟩
    · rintro ⟨z1, z2⟩
      by_cases e : a.1 = p
      · rw [if_pos e] at z1
        by_cases e2 : a.2 = cn h p
        · exact Or.inr (Prod.ext e e2)
        · exact Or.inl ((w.1 a).mpr ⟨by rw [e]; omega, z2⟩)
      · rw [if_neg e] at z1
        exact Or.inl ((w.1 a).mpr ⟨z1, z2⟩)
  · rw [vr_nw]
    by_cases e : a = (p, cn h p)
    · rw [if_pos e]; intro b hb; cases hb
    · rw [if_neg e]
      rcases List.mem_append.mp ha with z | z
      · exact hok _ (w.2.1 a z j)
      · exact absurd (List.mem_singleton.mp z) e
section VR3
variable {g : G0} {k : Kf} {dd rc rs pc : Nat} {L : List (Nat × PV)} {st : List PV} {h : Hp} {Q : Option PV → Hp → Prop} {E : EP}
theorem v_putI {i ci f : Nat} {ty : FieldType} {fin nest : Bool} {a : Ad} {x : Int32} (hf : FL (kO k) i ci f ty fin nest) (hfin : fin = true → nest = false ∧ kN k = "<init>" ∧ ∃ q, vwCl[ci]? = some q ∧ (q.2.1 f).1 = kO k) (d : decode (kC k) pc = .ok (.putfield i, 3)) (hp : pk a.1 = .inl ci) (hk : fk ci f = 0) (h64 : a.1 < 64)
    (hn : narrow ty (.int x) = .int x) (hfit : fits ty (.int x) = true) (ha : a.2 < cn h a.1) (K : V g k dd rc rs (pc + 3) L st (sI h a f x) Q E) : V g k dd rc rs pc L (pI x :: pR a :: st) h Q E :=
  v_put (sI h a f x) (pI x) hf hfin d hp ha h64 (fun _ => hn) (fun _ => hfit) rfl (fun ad => by unfold fv; rw [hk]; show Value.int (vi _ _ _) = _; rw [vi_sI, if_pos ⟨rfl, rfl⟩]; rfl)
    (fun ad j hj => fv_other (by rw [vi_sI, if_neg (fun z => hj z.2)]) rfl rfl) (fun cA ad b hb => ce_other rfl (fun j => by rw [vi_sI, if_neg (fun z => hb z.1)]) (fun _ => rfl) (fun _ => rfl)) (fun _ _ => Or.inl rfl) K
theorem v_putL {i ci f : Nat} {fin nest : Bool} {a : Ad} {x : Int64} (hf : FL (kO k) i ci f .long fin nest) (hfin : fin = true → nest = false ∧ kN k = "<init>" ∧ ∃ q, vwCl[ci]? = some q ∧ (q.2.1 f).1 = kO k) (d : decode (kC k) pc = .ok (.putfield i, 3)) (hp : pk a.1 = .inl ci) (hk : fk ci f = 1) (h64 : a.1 < 64)
    (ha : a.2 < cn h a.1) (K : V g k dd rc rs (pc + 3) L st (sL h a f x) Q E) : V g k dd rc rs pc L (pL x :: pR a :: st) h Q E :=
  v_put (sL h a f x) (pL x) hf hfin d hp ha h64 (fun _ => rfl) (fun _ => rfl) rfl (fun ad => by unfold fv; rw [hk]; show Value.long (vl _ _ _) = _; rw [vl_sL, if_pos ⟨rfl, rfl⟩]; rfl)
    (fun ad j hj => fv_other rfl (by rw [vl_sL, if_neg (fun z => hj z.2)]) rfl) (fun cA ad b hb => ce_other rfl (fun _ => rfl) (fun j => by rw [vl_sL, if_neg (fun z => hb z.1)]) (fun _ => rfl)) (fun _ _ => Or.inl rfl) K
def isRefTy (ty : FieldType) : Bool := match ty with
  | .object _ => true
  | .array _ => true
  | _ => false
theorem ref_nar {ty : FieldType} (h : isRefTy ty = true) (ad : Ad → Nat) (o : Option Ad) : narrow ty (er ad o) = er ad o ∧ fits ty (er ad o) = true := by
  cases ty <;> first | (cases o <;> exact ⟨rfl, rfl⟩) | (exfalso; revert h; simp [isRefTy])
theorem v_putR {i ci f : Nat} {ty : FieldType} {fin nest : Bool} {a : Ad} {o : Option Ad} (hf : FL (kO k) i ci f ty fin nest) (hfin : fin = true → nest = false ∧ kN k = "<init>" ∧ ∃ q, vwCl[ci]? = some q ∧ (q.2.1 f).1 = kO k) (d : decode (kC k) pc = .ok (.putfield i, 3)) (hp : pk a.1 = .inl ci) (hk : fk ci f = 2) (h64 : a.1 < 64) (hty : isRefTy ty = true)
    (ha : a.2 < cn h a.1) (K : V g k dd rc rs (pc + 3) L st (sR h a f o) Q E) : V g k dd rc rs pc L (pO o :: pR a :: st) h Q E :=
  v_put (sR h a f o) (pO o) hf hfin d hp ha h64 (fun ad => (ref_nar hty ad o).1) (fun ad => (ref_nar hty ad o).2) rfl (fun ad => by unfold fv; rw [hk]; show er ad (vr _ _ _) = _; rw [vr_sR, if_pos ⟨rfl, rfl⟩]; rfl)
    (fun ad j hj => fv_other rfl rfl (by rw [vr_sR, if_neg (fun z => hj z.2)])) (fun cA ad b hb => ce_other rfl (fun _ => rfl) (fun _ => rfl) (fun j => by rw [vr_sR, if_neg (fun z => hb z.1)]))
    (fun b j => by
      rw [vr_sR]
      by_cases z : b = a ∧ j = f
      · exact Or.inr ⟨o, rfl, if_pos z⟩
      · exact Or.inl (if_neg z)) K
/-! arrays -/
theorem v_alen {t : Nat} {a : Ad} (d : decode (kC k) pc = .ok (.arraylength, 1)) (hp : pk a.1 = .inr t) (ht : t < 6) (h64 : a.1 < 64) (ha : a.2 < cn h a.1) (K : V g k dd rc rs (pc + 1) L (pI (nI (ln h a)) :: st) h Q E) : V g k dd rc rs pc L (pR a :: st) h Q E := by
  intro p l e R s m args below meth c Z al0 ad0 ad al H locs cells slots ls cx hrc hec w x0 hS hl hL hs hc hsl
  have K2 := K p l e R s m args below meth c Z al0 ad0 ad al H locs cells slots ls cx hrc hec w x0 hS hl hL (okS.c trivial hs.t) hc hsl
  obtain ⟨hx, hb, hml, hown, hts, hgd, -⟩ := cx
  obtain ⟨n, hn⟩ := List.getElem?_of_mem ((w.1 a).mpr ⟨ha, h64⟩)
  have he := wl_get (cA := gA g) (ad := ad) (h := h) hn
  by_cases h3 : t < 3
  · rw [ce_int hp h3] at he
    exact va_alen hx hb hgd.1 w.2.2.2.1 n t he (tyl_at _ ht) rfl d K2
  · rw [ce_ref hp h3] at he
    exact va_alen hx hb hgd.1 w.2.2.2.1 n t he (tyl_at _ ht) rfl d K2
theorem v_iald {a : Ad} {i : Int32} (d : decode (kC k) pc = .ok (.iaload, 1)) (hp : pk a.1 = .inr 0) (h64 : a.1 < 64) (ha : a.2 < cn h a.1) (hi : vp_in i (ln h a)) (K : V g k dd rc rs (pc + 1) L (pI (vi h a i.toNatClampNeg) :: st) h Q E) : V g k dd rc rs pc L (pI i :: pR a :: st) h Q E := by
  intro p l e R s m args below meth c Z al0 ad0 ad al H locs cells slots ls cx hrc hec w x0 hS hl hL hs hc hsl
  have K2 := K p l e R s m args below meth c Z al0 ad0 ad al H locs cells slots ls cx hrc hec w x0 hS hl hL (okS.c trivial hs.t.t) hc hsl
  obtain ⟨hx, hb, hml, hown, hts, hgd, -⟩ := cx
  obtain ⟨n, hn⟩ := List.getElem?_of_mem ((w.1 a).mpr ⟨ha, h64⟩)
  have he := wl_get (cA := gA g) (ad := ad) (h := h) hn
  rw [ce_int hp (by decide)] at he
  exact va_iald hx hb hgd.1 w.2.2.2.1 n 0 he (tyl_at _ (by decide)) hi d K2
theorem v_bald {a : Ad} {i : Int32} (d : decode (kC k) pc = .ok (.baload, 1)) (hp : pk a.1 = .inr 1) (h64 : a.1 < 64) (ha : a.2 < cn h a.1) (hi : vp_in i (ln h a)) (K : V g k dd rc rs (pc + 1) L (pI (vi h a i.toNatClampNeg) :: st) h Q E) : V g k dd rc rs pc L (pI i :: pR a :: st) h Q E := by
  intro p l e R s m args below meth c Z al0 ad0 ad al H locs cells slots ls cx hrc hec w x0 hS hl hL hs hc hsl
  have K2 := K p l e R s m args below meth c Z al0 ad0 ad al H locs cells slots ls cx hrc hec w x0 hS hl hL (okS.c trivial hs.t.t) hc hsl
  obtain ⟨hx, hb, hml, hown, hts, hgd, -⟩ := cx
  obtain ⟨n, hn⟩ := List.getElem?_of_mem ((w.1 a).mpr ⟨ha, h64⟩)
  have he := wl_get (cA := gA g) (ad := ad) (h := h) hn
  rw [ce_int hp (by decide)] at he
  exact va_bald hx hb hgd.1 w.2.2.2.1 n 1 he (tyl_at _ (by decide)) hi d K2
theorem v_zald {a : Ad} {i : Int32} (d : decode (kC k) pc = .ok (.baload, 1)) (hp : pk a.1 = .inr 2) (h64 : a.1 < 64) (ha : a.2 < cn h a.1) (hi : vp_in i (ln h a)) (K : V g k dd rc rs (pc + 1) L (pI (vi h a i.toNatClampNeg) :: st) h Q E) : V g k dd rc rs pc L (pI i :: pR a :: st) h Q E := by
  intro p l e R s m args below meth c Z al0 ad0 ad al H locs cells slots ls cx hrc hec w x0 hS hl hL hs hc hsl
  have K2 := K p l e R s m args below meth c Z al0 ad0 ad al H locs cells slots ls cx hrc hec w x0 hS hl hL (okS.c trivial hs.t.t) hc hsl
  obtain ⟨hx, hb, hml, hown, hts, hgd, -⟩ := cx
  obtain ⟨n, hn⟩ := List.getElem?_of_mem ((w.1 a).mpr ⟨ha, h64⟩)
  have he := wl_get (cA := gA g) (ad := ad) (h := h) hn
  rw [ce_int hp (by decide)] at he
  exact va_zald hx hb hgd.1 w.2.2.2.1 n 2 he (tyl_at _ (by decide)) hi d K2
theorem v_aald {t : Nat} {a : Ad} {i : Int32} (o : Option Ad) (d : decode (kC k) pc = .ok (.aaload, 1)) (hp : pk a.1 = .inr t) (ht : t < 6) (h3 : ¬ t < 3) (h64 : a.1 < 64) (ha : a.2 < cn h a.1) (hi : vp_in i (ln h a)) (ho : vr h a i.toNatClampNeg = o) (K : V g k dd rc rs (pc + 1) L (pO o :: st) h Q E) : V g k dd rc rs pc L (pI i :: pR a :: st) h Q E := by
  intro p l e R s m args below meth c Z al0 ad0 ad al H locs cells slots ls cx hrc hec w x0 hS hl hL hs hc hsl
  have hal := (w.1 a).mpr ⟨ha, h64⟩
  have K2 := K p l e R s m args below meth c Z al0 ad0 ad al H locs cells slots ls cx hrc hec w x0 hS hl hL (okS.c (by have z := w.2.1 a hal i.toNatClampNeg; rw [ho] at z; exact z) hs.t.t) hc hsl
  obtain ⟨hx, hb, hml, hown, hts, hgd, -⟩ := cx
  obtain ⟨n, hn⟩ := List.getElem?_of_mem hal
  have he := wl_get (cA := gA g) (ad := ad) (h := h) hn
  rw [ce_ref hp h3] at he
  subst ho
  have hty := tyl_at (gA g) ht
  obtain ⟨C, hC⟩ : ∃ C, aty t = .object C := by
    rcases (show t = 3 ∨ t = 4 ∨ t = 5 by omega) with rfl | rfl | rfl <;> exact ⟨_, rfl⟩
  rw [hC] at hty
  exact va_aldq hx hb hgd.1 w.2.2.2.1 n t he hty hi d K2
theorem v_iast {a : Ad} {i x : Int32} (d : decode (kC k) pc = .ok (.iastore, 1)) (hp : pk a.1 = .inr 0) (h64 : a.1 < 64) (ha : a.2 < cn h a.1) (hi : vp_in i (ln h a)) (K : V g k dd rc rs (pc + 1) L st (sI h a i.toNatClampNeg x) Q E) : V g k dd rc rs pc L (pI x :: pI i :: pR a :: st) h Q E := by
  intro p l e R s m args below meth c Z al0 ad0 ad al H locs cells slots ls cx hrc hec w x0 hS hl hL hs hc hsl
  have K2 := fun H1 locs1 w1 hS1 => K p l e R s m args below meth c Z al0 ad0 ad al H1 locs1 cells slots ls cx hrc hec w1 x0 hS1 hl (okL_of rfl hL) (okS_of rfl hs.t.t.t) hc hsl
  obtain ⟨hx, hb, hml, hown, hts, hgd, -, -, -, hsz⟩ := cx
  obtain ⟨n, hn⟩ := List.getElem?_of_mem ((w.1 a).mpr ⟨ha, h64⟩)
  have he := wl_get (cA := gA g) (ad := ad) (h := h) hn
  rw [ce_int hp (by decide)] at he
  refine va_iast hx hb hgd.1 w.2.2.2.1 w.2.2.2.2.1 hS n 0 he (tyl_at _ (by decide)) hi d (fun H1 locs1 hP hD hS1 => ?_)
  rw [int_up _ (fun j => vi (sI h a i.toNatClampNeg x) a j) i.toNatClampNeg x (by rw [vi_sI, if_pos ⟨rfl, rfl⟩]) (fun j hj => by rw [vi_sI, if_neg (fun z => hj z.2)])] at hP hD
  have e : (ad a, (Sum.inl (gA g 0, ln h a, Sum.inl fun j => vi (sI h a i.toNatClampNeg x) a j) : va_E)) = (ad a, ce (gA g) ad (sI h a i.toNatClampNeg x) a) := by rw [ce_int hp (by decide)]; rfl
  rw [e] at hP hD
  exact K2 H1 locs1 (w.set hn rfl (fun b _ hne => ce_other rfl (fun j => by rw [vi_sI, if_neg (fun z => hne z.1)]) (fun _ => rfl) (fun _ => rfl)) (fun b hbl j => w.2.1 b hbl j) hP hD hS1 hsz (hS.ground hsz hS1 w.2.2.2.2.2.2)) hS1
theorem v_bast {a : Ad} {i x : Int32} (d : decode (kC k) pc = .ok (.bastore, 1)) (hp : pk a.1 = .inr 1) (h64 : a.1 < 64) (ha : a.2 < cn h a.1) (hi : vp_in i (ln h a)) (K : V g k dd rc rs (pc + 1) L st (sI h a i.toNatClampNeg (vp_nar .byte x)) Q E) : V g k dd rc rs pc L (pI x :: pI i :: pR a :: st) h Q E := by
  intro p l e R s m args below meth c Z al0 ad0 ad al H locs cells slots ls cx hrc hec w x0 hS hl hL hs hc hsl
  have K2 := fun H1 locs1 w1 hS1 => K p l e R s m args below meth c Z al0 ad0 ad al H1 locs1 cells slots ls cx hrc hec w1 x0 hS1 hl (okL_of rfl hL) (okS_of rfl hs.t.t.t) hc hsl
  obtain ⟨hx, hb, hml, hown, hts, hgd, -, -, -, hsz⟩ := cx
  obtain ⟨n, hn⟩ := List.getElem?_of_mem ((w.1 a).mpr ⟨ha, h64⟩)
  have he := wl_get (cA := gA g) (ad := ad) (h := h) hn
  rw [ce_int hp (by decide)] at he
  refine va_bast hx hb hgd.1 w.2.2.2.1 w.2.2.2.2.1 hS n 1 he (tyl_at _ (by decide)) hi d (fun H1 locs1 hP hD hS1 => ?_)
  generalize vp_nar .byte x = y at hP hD K2
  rw [int_up _ (fun j => vi (sI h a i.toNatClampNeg y) a j) i.toNatClampNeg y (by rw [vi_sI, if_pos ⟨rfl, rfl⟩]) (fun j hj => by rw [vi_sI, if_neg (fun z => hj z.2)])] at hP hD
  have e : (ad a, (Sum.inl (gA g 1, ln h a, Sum.inl fun j => vi (sI h a i.toNatClampNeg y) a j) : va_E)) = (ad a, ce (gA g) ad (sI h a i.toNatClampNeg y) a) := by rw [ce_int hp (by decide)]; rfl
  rw [e] at hP hD
  exact K2 H1 locs1 (w.set hn rfl (fun b _ hne => ce_other rfl (fun j => by rw [vi_sI, if_neg (fun z => hne z.1)]) (fun _ => rfl) (fun _ => rfl)) (fun b hbl j => w.2.1 b hbl j) hP hD hS1 hsz (hS.ground hsz hS1 w.2.2.2.2.2.2)) hS1
theorem v_zast {a : Ad} {i x : Int32} (d : decode (kC k) pc = .ok (.bastore, 1)) (hp : pk a.1 = .inr 2) (h64 : a.1 < 64) (ha : a.2 < cn h a.1) (hi : vp_in i (ln h a)) (K : V g k dd rc rs (pc + 1) L st (sI h a i.toNatClampNeg (vp_nar .boolean x)) Q E) : V g k dd rc rs pc L (pI x :: pI i :: pR a :: st) h Q E := by
  intro p l e R s m args below meth c Z al0 ad0 ad al H locs cells slots ls cx hrc hec w x0 hS hl hL hs hc hsl
  have K2 := fun H1 locs1 w1 hS1 => K p l e R s m args below meth c Z al0 ad0 ad al H1 locs1 cells slots ls cx hrc hec w1 x0 hS1 hl (okL_of rfl hL) (okS_of rfl hs.t.t.t) hc hsl
  obtain ⟨hx, hb, hml, hown, hts, hgd, -, -, -, hsz⟩ := cx
  obtain ⟨n, hn⟩ := List.getElem?_of_mem ((w.1 a).mpr ⟨ha, h64⟩)
  have he := wl_get (cA := gA g) (ad := ad) (h := h) hn
  rw [ce_int hp (by decide)] at he
  refine va_zast hx hb hgd.1 w.2.2.2.1 w.2.2.2.2.1 hS n 2 he (tyl_at _ (by decide)) hi d (fun H1 locs1 hP hD hS1 => ?_)
  generalize vp_nar .boolean x = y at hP hD K2
  rw [int_up _ (fun j => vi (sI h a i.toNatClampNeg y) a j) i.toNatClampNeg y (by rw [vi_sI, if_pos ⟨rfl, rfl⟩]) (fun j hj => by rw [vi_sI, if_neg (fun z => hj z.2)])] at hP hD
  have e : (ad a, (Sum.inl (gA g 2, ln h a, Sum.inl fun j => vi (sI h a i.toNatClampNeg y) a j) : va_E)) = (ad a, ce (gA g) ad (sI h a i.toNatClampNeg y) a) := by rw [ce_int hp (by decide)]; rfl
  rw [e] at hP hD
  exact K2 H1 locs1 (w.set hn rfl (fun b _ hne => ce_other rfl (fun j => by rw [vi_sI, if_neg (fun z => hne z.1)]) (fun _ => rfl) (fun _ => rfl)) (fun b hbl j => w.2.1 b hbl j) hP hD hS1 hsz (hS.ground hsz hS1 w.2.2.2.2.2.2)) hS1
/-- null, or an object whose class may lie there, is stored -/
theorem v_aast {t : Nat} {E0 : String} {a : Ad} {i : Int32} {o : Option Ad} (d : decode (kC k) pc = .ok (.aastore, 1)) (hp : pk a.1 = .inr t) (ht : t < 6) (h3 : ¬ t < 3) (hE : aty t = .object E0) (h64 : a.1 < 64)
    (ho : ∀ b, o = some b → b.1 < 64 ∧ ∃ ci q, pk b.1 = .inl ci ∧ vwCl[ci]? = some q ∧ (Cond.castable q.1 E0 ∈ lw_n ∨ q.1 = E0)) (ha : a.2 < cn h a.1) (hi : vp_in i (ln h a)) (K : V g k dd rc rs (pc + 1) L st (sR h a i.toNatClampNeg o) Q E) : V g k dd rc rs pc L (pO o :: pI i :: pR a :: st) h Q E := by
  intro p l e R s m args below meth c Z al0 ad0 ad al H locs cells slots ls cx hrc hec w x0 hS hl hL hs hc hsl
  have K2 := fun H1 locs1 w1 hS1 => K p l e R s m args below meth c Z al0 ad0 ad al H1 locs1 cells slots ls cx hrc hec w1 x0 hS1 hl (okL_of rfl hL) (okS_of rfl hs.t.t.t) hc hsl
  obtain ⟨hx, hb, hml, hown, hts, hgd, -, -, -, hsz⟩ := cx
  obtain ⟨n, hn⟩ := List.getElem?_of_mem ((w.1 a).mpr ⟨ha, h64⟩)
  have he := wl_get (cA := gA g) (ad := ad) (h := h) hn
  rw [ce_ref hp h3] at he
  have hty := tyl_at (gA g) ht
  rw [hE] at hty
  have fin2 : ∀ (H1 : Heap) (locs1 : List Loc), va_P (gD g) vwCl ((wl (gA g) ad h al).set n (ad a, .inl (gA g t, ln h a, .inr (.inr (.inr (.inr (va_up (fun j => (vr h a j).map ad) i.toNatClampNeg (o.map ad)))))))) H1 → va_D (gF g) ((wl (gA g) ad h al).set n (ad a, .inl (gA g t, ln h a, .inr (.inr (.inr (.inr (va_up (fun j => (vr h a j).map ad) i.toNatClampNeg (o.map ad)))))))) → va_S (gF g) s.heap H1 locs1 → W p l e R s m args below meth c H1 locs1 cells slots Z (F0 m (pc + 1) ls (st.map (em ad))) := by
    intro H1 locs1 hP hD hS1
    rw [map_up _ (fun j => vr (sR h a i.toNatClampNeg o) a j) ad i.toNatClampNeg o (by rw [vr_sR, if_pos ⟨rfl, rfl⟩]) (fun j hj => by rw [vr_sR, if_neg (fun z => hj z.2)])] at hP hD
    have e : (ad a, (Sum.inl (gA g t, ln h a, Sum.inr (Sum.inr (Sum.inr (Sum.inr fun j => (vr (sR h a i.toNatClampNeg o) a j).map ad)))) : va_E)) = (ad a, ce (gA g) ad (sR h a i.toNatClampNeg o) a) := by rw [ce_ref hp h3]; rfl
    rw [e] at hP hD
    refine K2 H1 locs1 (w.set hn rfl (fun b _ hne => ce_other rfl (fun _ => rfl) (fun _ => rfl) (fun j => by rw [vr_sR, if_neg (fun z => hne z.1)])) (fun b hbl j => ?_) hP hD hS1 hsz (hS.ground hsz hS1 w.2.2.2.2.2.2)) hS1
    rw [vr_sR]
    by_cases z : b = a ∧ j = i.toNatClampNeg
    · rw [if_pos z]; exact hs.hd
    · rw [if_neg z]; exact w.2.1 b hbl j
  cases o with
  | none => exact va_astqN hx hb hgd.1 w.2.2.2.1 w.2.2.2.2.1 hS n t he hty hi d fin2
  | some b =>
    obtain ⟨hb64, ci, q, hpb, hq, hca⟩ := ho b rfl
    have hbal : b ∈ al := by
      rcases w.okr_al hs.hd b rfl with z | z
      · exact z
      · omega
    obtain ⟨nb, hnb⟩ := List.getElem?_of_mem hbal
    have heb := wl_get (cA := gA g) (ad := ad) (h := h) hnb
    rw [ce_obj hpb] at heb
    rcases hca with hca | hca
    · exact va_astqO hx hb hgd.1 w.2.2.2.1 w.2.2.2.2.1 hS n t nb ci he hty (hgd.2.1 _ hca) heb hq hi d fin2
    · subst hca
      exact va_astq hx hb hgd.1 w.2.2.2.1 w.2.2.2.2.1 hS n t nb ci he hty heb hq hi d fin2
end VR3
end
section
def fdef (n : Nat) : Value := match n with
  | 0 => .int 0
  | 1 => .long 0
  | _ => .null
theorem fk_chk : (List.range 16).all (fun ci => (List.range (nF ci)).all fun j => decide (((vwCl[ci]?).bind fun q => (parseFieldDescriptor (q.2.1 j).2.2.1).map defaultValue) = some (fdef (fk ci j)))) = true := by decide +kernel
theorem fk_ok {ci j : Nat} {q : vw_C} {ty : FieldType} (hc : vwCl[ci]? = some q) (hj : j < q.2.2) (ht : parseFieldDescriptor (q.2.1 j).2.2.1 = some ty) : defaultValue ty = fdef (fk ci j) := by
  have h1 : ci < 16 := by
    have := (List.getElem?_eq_some_iff.mp hc).1
    simpa [vwCl] using this
  have h2 := List.all_eq_true.mp fk_chk ci (List.mem_range.mpr h1)
  have h3 := List.all_eq_true.mp h2 j (List.mem_range.mpr (by rw [nF_of hc]; exact hj))
  have h4 := of_decide_eq_true h3
  rw [hc] at h4
  simp only [Option.bind_some, ht, Option.map_some] at h4
  exact Option.some.inj h4
theorem fv_new (ad : Ad → Nat) (h : Hp) (p n ci j : Nat) : fv ad (nw h p n) ci (p, cn h p) j = fdef (fk ci j) := by
  unfold fv fdef
  rw [vi_nw, vl_nw, vr_nw, if_pos rfl, if_pos rfl, if_pos rfl]
  rfl
section VR4
variable {g : G0} {k : Kf} {dd rc rs pc : Nat} {L : List (Nat × PV)} {st : List PV} {h : Hp} {Q : Option PV → Hp → Prop} {E : EP}
theorem v_new {i ci : Nat} {q : vw_C} (p rc' rs' : Nat) (d : decode (kC k) pc = .ok (.new i, 3)) (hq : vwCl[ci]? = some q) (hcl : Cond.classLink (kO k) i q.1 ∈ lw_g) (hp : pk p = .inl ci) (h64 : p < 64) (h1 : rc' + 1 ≤ rc) (h2 : rs' + q.2.2 ≤ rs)
    (K : V g k dd rc' rs' (pc + 3) L (pR (p, cn h p) :: st) (nw h p 0) Q E) : V g k dd rc rs pc L st h Q E := by
  intro pg l e R s m args below meth c Z al0 ad0 ad al H locs cells slots ls cx hrc hec w x0 hS hl hL hs hc hsl
  have cx' := cx
  obtain ⟨hx, hb, hml, hown, hts, hgd, -, -, -, hsz⟩ := cx
  obtain ⟨hin, ⟨ty0, hty0⟩, -, hins, hini⟩ := cf_all ci q hq
  refine va_new (ci := ci) (fs := (List.range (nF ci)).map fun j => fdef (fk ci j)) hx hb hts hin ty0 hty0 hown (hts _ hcl) (hts _ hins) (hts _ hini) hgd.1 w.2.2.2.1 w.2.2.2.2.1 hS (fun x hx2 => Nat.le_trans hsz hx2) hq ?_ (by omega) (by omega) d (fun qa H1 hP hD hS1 => ?_)
  · intro j hj
    rw [fk_ok hq hj (hty0 j hj)]
    unfold vp_V
    rw [List.getD_eq_getElem?_getD, List.getElem?_map, List.getElem?_range (by rw [nF_of hq]; exact hj)]
    rfl
  · have ee : (qa, (Sum.inr (ci, (List.range (nF ci)).map fun j => fdef (fk ci j)) : va_E)) = (qa, ce (gA g) (adU ad (p, cn h p) qa) (nw h p 0) (p, cn h p)) := by
      rw [ce_obj hp, show (fun j => fv (adU ad (p, cn h p) qa) (nw h p 0) ci (p, cn h p) j) = fun j => fdef (fk ci j) from funext fun j => fv_new _ h p 0 ci j]
    rw [ee] at hP hD
    obtain ⟨w1, x1⟩ := w.push h64 hS hS1 hsz hP hD
    have hst : (pR (p, cn h p) :: st).map (em (adU ad (p, cn h p) qa)) = .ref qa :: st.map (em ad) := by
      rw [List.map_cons, x1.eqS w hs]
      show va_rf (some (adU ad (p, cn h p) qa (p, cn h p))) :: _ = _
      rw [adU_s]; rfl
    have K2 := K pg l e R s m args below meth c Z al0 ad0 (adU ad (p, cn h p) qa) (al ++ [(p, cn h p)]) H1 locs (cells + 1) (slots + q.2.2) ls cx' hrc hec w1 (x0.tr x1) hS1 (by rw [x1.eqL w hL]; exact hl) (okL_mono w w1 x1 hL)
      (okS.c (fun a ha => by cases ha; left; show cn h p < cn (nw h p 0) p; rw [cn_nw, if_pos rfl]; exact Nat.lt_succ_self _) (okS_mono w w1 x1 hs)) (by omega) (by omega)
    rw [hst] at K2
    exact K2
theorem v_newa {t : Nat} {ty : ArrayType} {n : Int32} (p rc' rs' : Nat) (d : decode (kC k) pc = .ok (.newarray ty, 2)) (hty : newarray.typeOf ty = aty t) (hw : Cond.arrayClass (aty t) ∈ lw_g) (ht : t < 3) (hp : pk p = .inr t) (h64 : p < 64) (hn : ¬ n < 0) (hbd : n.toNatClampNeg ≤ 100000) (h1 : rc' + 1 ≤ rc) (h2 : rs' + n.toNatClampNeg ≤ rs)
    (K : V g k dd rc' rs' (pc + 2) L (pR (p, cn h p) :: st) (nw h p n.toNatClampNeg) Q E) : V g k dd rc rs pc L (pI n :: st) h Q E := by
  intro pg l e R s m args below meth c Z al0 ad0 ad al H locs cells slots ls cx hrc hec w x0 hS hl hL hs hc hsl
  have cx' := cx
  obtain ⟨hx, hb, hml, hown, hts, hgd, -, -, -, hsz⟩ := cx
  have hcb : n.toNatClampNeg * componentBytes (aty t) ≤ 536870912 := by
    rcases (show t = 0 ∨ t = 1 ∨ t = 2 by omega) with rfl | rfl | rfl
    · exact Nat.le_trans (Nat.mul_le_mul hbd (Nat.le_of_eq (show componentBytes (aty 0) = 4 from rfl))) (by decide)
    · exact Nat.le_trans (Nat.mul_le_mul hbd (Nat.le_of_eq (show componentBytes (aty 1) = 1 from rfl))) (by decide)
    · exact Nat.le_trans (Nat.mul_le_mul hbd (Nat.le_of_eq (show componentBytes (aty 2) = 1 from rfl))) (by decide)
  have hdv : defaultValue (aty t) = .int 0 := by
    rcases (show t = 0 ∨ t = 1 ∨ t = 2 by omega) with rfl | rfl | rfl <;> rfl
  refine va_newa (ty := aty t) (a0 := (n.toNatClampNeg, .inl fun _ => 0)) hx hb (by rw [hty]; exact hts _ hw) hty hgd.1 w.2.2.2.1 w.2.2.2.2.1 hS (fun x hx2 => Nat.le_trans hsz hx2) (fun cA => by rw [vp_cell_i, hdv]) hn rfl hcb (by omega) (by omega) d (fun qa cA H1 hK1 hP hD hS1 => ?_)
  have hcA : cA = gA g t := by
    have e1 := (hK1.2 6 (cA, aty t) (by rw [List.getElem?_append_right (by simp [tyl])]; simp [tyl])).2
    have e2 := (hgd.1.2 t _ (tyl_at (gA g) (by omega))).2
    exact RA_inj e1 e2
  subst hcA
  have ee : (qa, (Sum.inl (gA g t, n.toNatClampNeg, Sum.inl fun _ => 0) : va_E)) = (qa, ce (gA g) (adU ad (p, cn h p) qa) (nw h p n.toNatClampNeg) (p, cn h p)) := by
    rw [ce_int hp ht, ln_nw, if_pos rfl, show (fun j => vi (nw h p n.toNatClampNeg) (p, cn h p) j) = fun _ => 0 from funext fun j => by rw [vi_nw, if_pos rfl]]
  rw [ee] at hP hD
  obtain ⟨w1, x1⟩ := w.push h64 hS hS1 hsz hP hD
  have hst : (pR (p, cn h p) :: st).map (em (adU ad (p, cn h p) qa)) = .ref qa :: st.map (em ad) := by
    rw [List.map_cons, x1.eqS w hs.t]
    show va_rf (some (adU ad (p, cn h p) qa (p, cn h p))) :: _ = _
    rw [adU_s]; rfl
  have K2 := K pg l e R s m args below meth c Z al0 ad0 (adU ad (p, cn h p) qa) (al ++ [(p, cn h p)]) H1 locs (cells + 1) (slots + n.toNatClampNeg) ls cx' hrc hec w1 (x0.tr x1) hS1 (by rw [x1.eqL w hL]; exact hl) (okL_mono w w1 x1 hL)
    (okS.c (fun a ha => by cases ha; left; show cn h p < cn (nw h p _) p; rw [cn_nw, if_pos rfl]; exact Nat.lt_succ_self _) (okS_mono w w1 x1 hs.t)) (by omega) (by omega)
  rw [hst] at K2
  exact K2
theorem v_anew {t i : Nat} {C : String} {n : Int32} (p rc' rs' : Nat) (d : decode (kC k) pc = .ok (.anewarray i, 3)) (hC : aty t = .object C) (hcl : Cond.classLink (kO k) i C ∈ lw_g) (ht : t < 6) (h3 : ¬ t < 3) (hp : pk p = .inr t) (h64 : p < 64) (hn : ¬ n < 0) (hbd : n.toNatClampNeg ≤ 100000) (h1 : rc' + 1 ≤ rc) (h2 : rs' + n.toNatClampNeg ≤ rs)
    (K : V g k dd rc' rs' (pc + 3) L (pR (p, cn h p) :: st) (nw h p n.toNatClampNeg) Q E) : V g k dd rc rs pc L (pI n :: st) h Q E := by
  intro pg l e R s m args below meth c Z al0 ad0 ad al H locs cells slots ls cx hrc hec w x0 hS hl hL hs hc hsl
  have cx' := cx
  obtain ⟨hx, hb, hml, hown, hts, hgd, -, -, -, hsz⟩ := cx
  have hao : va_AO C s := by
    rcases (show t = 3 ∨ t = 4 ∨ t = 5 by omega) with rfl | rfl | rfl
    · cases hC; exact hgd.2.2.1
    · cases hC; exact hgd.2.2.2.1
    · cases hC; exact hgd.2.2.2.2.1
  refine va_newq hx hb hown (hts _ hcl) hao hgd.1 w.2.2.2.1 w.2.2.2.2.1 hS (fun x hx2 => Nat.le_trans hsz hx2) hn rfl (by omega) (by omega) (by omega) d (fun qa cA H1 hK1 hP hD hS1 => ?_)
  have hcA : cA = gA g t := by
    have e1 := (hK1.2 6 (cA, .object C) (by rw [List.getElem?_append_right (by simp [tyl])]; simp [tyl])).2
    have e2 := (hgd.1.2 t _ (tyl_at (gA g) ht)).2
    rw [hC] at e2
    exact RA_inj e1 e2
  subst hcA
  have ee : (qa, (Sum.inl (gA g t, n.toNatClampNeg, Sum.inr (Sum.inr (Sum.inr (Sum.inr fun _ => none)))) : va_E)) = (qa, ce (gA g) (adU ad (p, cn h p) qa) (nw h p n.toNatClampNeg) (p, cn h p)) := by
    rw [ce_ref hp h3, ln_nw, if_pos rfl, show (fun j => (vr (nw h p n.toNatClampNeg) (p, cn h p) j).map (adU ad (p, cn h p) qa)) = fun _ => none from funext fun j => by rw [vr_nw, if_pos rfl]; rfl]
  rw [ee] at hP hD
  obtain ⟨w1, x1⟩ := w.push h64 hS hS1 hsz hP hD
  have hst : (pR (p, cn h p) :: st).map (em (adU ad (p, cn h p) qa)) = .ref qa :: st.map (em ad) := by
    rw [List.map_cons, x1.eqS w hs.t]
    show va_rf (some (adU ad (p, cn h p) qa (p, cn h p))) :: _ = _
    rw [adU_s]; rfl
  have K2 := K pg l e R s m args below meth c Z al0 ad0 (adU ad (p, cn h p) qa) (al ++ [(p, cn h p)]) H1 locs (cells + 1) (slots + n.toNatClampNeg) ls cx' hrc hec w1 (x0.tr x1) hS1 (by rw [x1.eqL w hL]; exact hl) (okL_mono w w1 x1 hL)
    (okS.c (fun a ha => by cases ha; left; show cn h p < cn (nw h p _) p; rw [cn_nw, if_pos rfl]; exact Nat.lt_succ_self _) (okS_mono w w1 x1 hs.t)) (by omega) (by omega)
  rw [hst] at K2
  exact K2
/-- an object of our own, of just that class, or null -/
theorem v_cast {i : Nat} {o : Option Ad} {nm : String} (d : decode (kC k) pc = .ok (.checkcast i, 3)) (hcl : Cond.classLink (kO k) i nm ∈ lw_g) (ho : ∀ a, o = some a → a.1 < 64 ∧ ∃ ci q, pk a.1 = .inl ci ∧ vwCl[ci]? = some q ∧ q.1 = nm)
    (K : V g k dd rc rs (pc + 3) L (pO o :: st) h Q E) : V g k dd rc rs pc L (pO o :: st) h Q E := by
  intro pg l e R s m args below meth c Z al0 ad0 ad al H locs cells slots ls cx hrc hec w x0 hS hl hL hs hc hsl
  have K2 := K pg l e R s m args below meth c Z al0 ad0 ad al H locs cells slots ls cx hrc hec w x0 hS hl hL hs hc hsl
  obtain ⟨hx, hb, hml, hown, hts, hgd, -, -, -, hsz⟩ := cx
  cases o with
  | none => exact lv_castN hx hb d K2
  | some a =>
    obtain ⟨h64, ci, q, hp, hq, rfl⟩ := ho a rfl
    have hal : a ∈ al := by
      rcases w.okr_al hs.hd a rfl with z | z
      · exact z
      · omega
    obtain ⟨n, hn⟩ := List.getElem?_of_mem hal
    have he := wl_get (cA := gA g) (ad := ad) (h := h) hn
    rw [ce_obj hp] at he
    exact va_castS hx hb hown (hts _ hcl) (hgd.1.1 ci q hq).2 (va_recv hgd.1 w.2.2.2.1 hq he) d K2
/-- the same reference twice -/
theorem v_acmpeq_same {o : Option Ad} {off : Int} (t : Nat) (d : decode (kC k) pc = .ok (.if_acmp .eq off, 3)) (ht : (pc : Int) + off = (t : Int)) (K : V g k dd rc rs t L st h Q E) : V g k dd rc rs pc L (pO o :: pO o :: st) h Q E := by
  intro pg l e R s m args below meth c Z al0 ad0 ad al H locs cells slots ls cx hrc hec w x0 hS hl hL hs hc hsl
  exact lv_acmp_eq cx.1 cx.2.1 d ht (fun _ => K pg l e R s m args below meth c Z al0 ad0 ad al H locs cells slots ls cx hrc hec w x0 hS hl hL hs.t.t hc hsl) (fun z => absurd rfl z)
theorem v_acmpne_same {o : Option Ad} {off : Int} (t : Nat) (d : decode (kC k) pc = .ok (.if_acmp .ne off, 3)) (ht : (pc : Int) + off = (t : Int)) (K : V g k dd rc rs (pc + 3) L st h Q E) : V g k dd rc rs pc L (pO o :: pO o :: st) h Q E := by
  intro pg l e R s m args below meth c Z al0 ad0 ad al H locs cells slots ls cx hrc hec w x0 hS hl hL hs hc hsl
  exact lv_acmp_ne cx.1 cx.2.1 d ht (fun z => absurd rfl z) (fun _ => K pg l e R s m args below meth c Z al0 ad0 ad al H locs cells slots ls cx hrc hec w x0 hS hl hL hs.t.t hc hsl)
end VR4
end
section
/-! calls -/
def tw_Iv (p : Program) (l : Launch) (e : Env) (R : Room) (s : State) (m : MethodId) (args : Array Value) (below : List Frame) (meth : Method) (c : Code) (T : State) (locs : List Loc) (cells slots : Nat) (gf : JFrame) (rest : List Value) (y : MethodName) (As : Array Value) : Prop :=
  ∃ (vm₁ : Vm) (mk : MethodId), s.WarmedH vm₁ ∧ Stand p l e R s m args below meth c (T.setVm vm₁) locs cells slots ∧ s.methodNamed? y = some mk ∧
    ∀ target, Steps p.tables e below (doInvoke e ((T.setVm vm₁).setTop { gf with stack := rest }) [] mk As).1 target → Steps p.tables e below (T.setTop gf) target
/-- what a method's code word says -/
def CW (y : MethodName) (cw : Cond) (nL n : Nat) : Prop :=
  cw ∈ lw_g ∧ Cond.initialized y.cls ∈ lw_g ∧ (y.cls ≠ "java/lang/invoke/MethodHandle" ∧ y.cls ≠ "java/lang/invoke/VarHandle") ∧ (parseMethodDescriptor y.desc).map (fun d => d.parameters.length) = some n ∧
  ∀ (U : State) (a : Array Value) (mk : MethodId), U.methodNamed? y = some mk → cw.before a U = true → ∃ (methY : Method) (cY : Code), U.vm.method? mk = some methY ∧ methY.code = some cY ∧ cY.maxLocals = nL ∧ parseMethodDescriptor y.desc = some methY.sig
theorem CW.of {y : MethodName} {cc : ByteArray} {nL n : Nat} {rt : Option FieldType} (h1 : Cond.code y cc nL rt ∈ lw_g) (h2 : Cond.initialized y.cls ∈ lw_g) (h3 : y.cls ≠ "java/lang/invoke/MethodHandle" ∧ y.cls ≠ "java/lang/invoke/VarHandle") (h4 : (parseMethodDescriptor y.desc).map (fun d => d.parameters.length) = some n) : CW y (Cond.code y cc nL rt) nL n := by
  refine ⟨h1, h2, h3, h4, fun U a mk hn hb => ?_⟩
  obtain ⟨methM, cM, hm, hcM, -, hl, -, -, -, hs⟩ := Cond.code_spec hn hb
  exact ⟨methM, cM, hm, hcM, hl, hs⟩
section IV
variable {p : Program} {l : Launch} {e : Env} {R : Room} {s : State} {m : MethodId} {args : Array Value} {below : List Frame} {meth : Method} {c : Code} {T : State} {locs : List Loc} {cells slots : Nat}
theorem tw_ivV (X : Stand p l e R s m args below meth c T locs cells slots) (hexec : p.tables.exec = Jvm.exec) {own C : String} {index nL n : Nat} {y : MethodName} {cw : Cond}
    (hown : s.vm.findClass own = some m.cls) (hlink : (Cond.methodLink own index y).before args s = true) (hinst : (Cond.instanceMethod y).before args s = true) (hsel : (Cond.selects C y y).before args s = true) (hcw : CW y cw nL n) (hcb : cw.before args s = true)
    {b : Addr} {cellB : Cell} (hcell : T.heap[b]? = some cellB) (hobj : cellB.vm.isStatics = false) (hcls : s.vm.findClass C = some cellB.cls)
    {gf : JFrame} (hg : gf.method = m) {argsL rest : List Value} (hlen : argsL.length = n) (hstack : gf.stack = argsL.reverse ++ .ref b :: rest) (hdg : decode c.code gf.pc = .ok (.invokevirtual index, 3)) :
    tw_Iv p l e R s m args below meth c T locs cells slots gf rest y (Value.ref b :: argsL).toArray := by
  obtain ⟨mk, methM, hnamed, hmethM, hstM, habM⟩ := Cond.instanceMethod_spec hinst
  obtain ⟨-, -, hy, hn, hsp⟩ := hcw
  obtain ⟨methM', cM, hmethM', -, -, hsigM⟩ := hsp s args mk hnamed hcb
  cases hmethM.symm.trans hmethM'
  obtain ⟨c2, r2, m2, q1, q2, q3, q4, kP, hkP, hkPi⟩ := Cond.selects_spec hsel
  cases hcls.symm.trans q1
  cases (State.methodFound?_of_named hnamed hy).symm.trans q2
  cases hnamed.symm.trans q3
  have hselP : selectMethod e.platform s.vm cellB.cls mk = .method mk := by rw [Launch.admits_selectMethod X.admits]; exact q4
  obtain ⟨vm₁, X₁, hstep₁⟩ := X.invokevirtual hexec hown hlink hnamed hmethM hstM hkP hkPi hy (a := b) (cell := cellB) hcell
    (fun z h => by rw [h] at hobj; cases hobj) hselP hmethM habM hkP hkPi (g := gf) hg (argsL := argsL) (rest := rest) (by rw [hsigM] at hn; exact hlen.trans (Option.some.inj hn).symm) hstack hdg
  exact ⟨vm₁, mk, X₁.warmed, X₁, hnamed, fun target h => hstep₁ _ fun acts => by rw [doInvoke_state]; exact h⟩
theorem tw_ivS (X : Stand p l e R s m args below meth c T locs cells slots) (hexec : p.tables.exec = Jvm.exec) {own : String} {index nL n : Nat} {y : MethodName} {cc : ByteArray} {rt : Option FieldType}
    (hown : s.vm.findClass own = some m.cls) (hlink : (Cond.methodLink own index y).before args s = true) (hstat : (Cond.static y).before args s = true) (hinit : (Cond.initialized y.cls).before args s = true) (hcw : CW y (Cond.code y cc nL rt) nL n) (hcode : (Cond.code y cc nL rt).before args s = true)
    {gf : JFrame} (hg : gf.method = m) {argsL rest : List Value} (hlen : argsL.length = n) (hstack : gf.stack = argsL.reverse ++ rest) (hdg : decode c.code gf.pc = .ok (.invokestatic index, 3)) :
    tw_Iv p l e R s m args below meth c T locs cells slots gf rest y argsL.toArray := by
  obtain ⟨mk, hnamed⟩ := Cond.code_named hcode
  obtain ⟨-, -, hy, hn, hsp⟩ := hcw
  obtain ⟨methM, cM, hmethM, -, -, hsigM⟩ := hsp s args mk hnamed hcode
  have hstatic : methM.isStatic = true := Cond.static_spec hnamed hmethM hstat
  obtain ⟨kP, hkP, -⟩ := className_of_methodNamed hnamed
  have hinitP : kP.init = .initialized := Cond.initialized_spec (findClass_of_methodNamed hnamed) hkP hinit
  obtain ⟨vm₁, X₁, hstep₁⟩ := X.invokestatic hexec hown hlink hnamed hmethM hstatic hkP hinitP hy (g := gf) hg (argsL := argsL) (rest := rest) (by rw [hsigM] at hn; exact hlen.trans (Option.some.inj hn).symm) hstack hdg
  exact ⟨vm₁, mk, X₁.warmed, X₁, hnamed, fun target h => hstep₁ _ fun acts => by rw [doInvoke_state]; exact h⟩
theorem tw_ivI (X : Stand p l e R s m args below meth c T locs cells slots) (hexec : p.tables.exec = Jvm.exec) {own : String} {index nL n : Nat} {y : MethodName} {cc : ByteArray}
    (hown : s.vm.findClass own = some m.cls) (hy1 : y.name = "<init>") (hlink : (Cond.methodLink own index y).before args s = true) (hinst : (Cond.instanceMethod y).before args s = true) (hcw : CW y (Cond.code y cc nL none) nL n) (hcode : (Cond.code y cc nL none).before args s = true)
    {gf : JFrame} (hg : gf.method = m) {a : Addr} {argsL rest : List Value} (hlen : argsL.length = n) (hstack : gf.stack = argsL.reverse ++ .ref a :: rest) (hdg : decode c.code gf.pc = .ok (.invokespecial index, 3)) :
    tw_Iv p l e R s m args below meth c T locs cells slots gf rest y (Value.ref a :: argsL).toArray := by
  subst hg
  obtain ⟨-, -, hy, hn, hsp⟩ := hcw
  have hpl : e.platform.magicAccessors = ({} : Platform).magicAccessors := by rw [X.admits.platform]
  obtain ⟨mk, methM, cM, kP, vm₁, hnamed, hmethM, hcodeM, -, hlocalsM, -, hkP, -, hW₁, hstep₁⟩ := Steps.initColdArgs (e := e) X.here hexec X.warmed hpl hown hy1 hy hlink hinst hcode (f := gf) rfl (fun sig hs => by rw [hs] at hn; exact hlen.trans (Option.some.inj hn).symm) hstack hdg
  exact ⟨vm₁, mk, hW₁, X.noted hW₁, hnamed, fun target h => hstep₁ _ fun acts => by rw [doInvoke_state]; exact h⟩
theorem tw_ivIN (X : Stand p l e R s m args below meth c T locs cells slots) (hexec : p.tables.exec = Jvm.exec) {own host : String} {index nL n : Nat} {y : MethodName} {cc : ByteArray}
    (hown : s.vm.findClass own = some m.cls) (hy1 : y.name = "<init>") (hlink : (Cond.methodLinkNest own index y host).before args s = true) (hinst : (Cond.instanceMethod y).before args s = true) (hcw : CW y (Cond.code y cc nL none) nL n) (hcode : (Cond.code y cc nL none).before args s = true)
    {gf : JFrame} (hg : gf.method = m) {a : Addr} {argsL rest : List Value} (hlen : argsL.length = n) (hstack : gf.stack = argsL.reverse ++ .ref a :: rest) (hdg : decode c.code gf.pc = .ok (.invokespecial index, 3)) :
    tw_Iv p l e R s m args below meth c T locs cells slots gf rest y (Value.ref a :: argsL).toArray := by
  subst hg
  obtain ⟨-, -, hy, hn, hsp⟩ := hcw
  have hpl : e.platform.magicAccessors = ({} : Platform).magicAccessors := by rw [X.admits.platform]
  obtain ⟨mk, methM, cM, kP, vm₁, hnamed, hmethM, hcodeM, -, hlocalsM, -, hkP, -, hW₁, hstep₁⟩ := Steps.initColdArgsNest (e := e) X.here hexec X.warmed hpl hown hy1 hy hlink hinst hcode (f := gf) rfl (fun sig hs => by rw [hs] at hn; exact hlen.trans (Option.some.inj hn).symm) hstack hdg
  exact ⟨vm₁, mk, hW₁, X.noted hW₁, hnamed, fun target h => hstep₁ _ fun acts => by rw [doInvoke_state]; exact h⟩
end IV
section VR5
variable {g : G0} {k : Kf} {dd rc rs pc : Nat} {L : List (Nat × PV)} {st : List PV} {h : Hp} {Q : Option PV → Hp → Prop} {E : EP}
theorem v_callX {y : MethodName} {cw : Cond} {nL' n' d' mc ms : Nat} {As full : List PV} {Q' : Option PV → Hp → Prop} {X' : Ad → Hp → Prop} {ig : Instr} (rc' rs' : Nat) (hM : Mx g y cw d' As h mc ms Q' X') (hcw : CW y cw nL' n') (hd : d' + 1 ≤ dd) (hnl : nL' ≤ 22) (h1 : rc' + mc ≤ rc) (h2 : rs' + ms ≤ rs) (hst : cs st ≤ 8)
    (dec : decode (kC k) pc = .ok (ig, 3)) (hA : ∀ v ∈ As, v ∈ full) (hS0 : ∀ v ∈ st, v ∈ full)
    (hiv : ∀ (p : Program) (l : Launch) (e : Env) (R : Room) (s : State) (m : MethodId) (args : Array Value) (below : List Frame) (meth : Method) (c : Code) (ad : Ad → Nat) (al : List Ad) (H : Heap) (locs : List Loc) (cells slots : Nat) (ls : Array Slot) (T : State),
      Cx g k dd p R s m args meth c → Wo g ad al h H → okS h full → T.heap = H → Stand p l e R s m args below meth c T locs cells slots → tw_Iv p l e R s m args below meth c T locs cells slots (F0 m pc ls (full.map (em ad))) (st.map (em ad)) y (As.map (em ad)).toArray)
    (KQ : ∀ r h', Q' r h' → V g k dd rc' rs' (pc + 3) L (r.toList ++ st) h' Q E) (KX : ∀ a h', X' a h' → E pc L a h') : V g k dd rc rs pc L full h Q E := by
  intro p l e R s m args below meth c Z al0 ad0 ad al H locs cells slots ls cx hrc hec w x0 hS hl hL hs hc hsl
  intro T hT X
  obtain ⟨vm₁, mk, hW₁, X₁, hnamed, hstep⟩ := hiv p l e R s m args below meth c ad al H locs cells slots ls T cx w hs hT X
  have cx' := cx
  obtain ⟨hx, hb, hml, hown, hts, hgd, hfr, hlo, -, hsz⟩ := cx
  have hws : ∀ w ∈ lw_g, ∀ (a' : Array Value) (U : State), s.WarmedH U.vm → w.before a' U = true := fun w hw a' U hW => word_at hW (good_of_word (List.mem_filter.mp hw).2) (hts w hw)
  have hokA : okS h As := fun v hv => hs v (hA v hv)
  have hokst : okS h st := fun v hv => hs v (hS0 v hv)
  have hB : tw_Bk l R p e below s args y 3 8
      (fun A a => A.cells + mc ≤ R.cells ∧ A.slots + ms ≤ R.slots ∧ a = (As.map (em ad)).toArray ∧ A.U.heap = H)
      (fun A a v B => ∃ (r : Option PV) (h' : Hp) (ad' : Ad → Nat) (al' : List Ad), v = r.map (em ad') ∧ Q' r h' ∧ okO h' r ∧ Wo g ad' al' h' B.U.heap ∧ Ex al ad al' ad' ∧ (∃ L2, B.locs = A.locs ++ L2 ∧ ∀ q ∈ L2, gF g q.base) ∧ B.cells = A.cells + mc ∧ B.slots = A.slots + ms ∧ A.U.heap.size ≤ B.U.heap.size ∧ ∀ q, q < A.U.heap.size → ¬ gF g q → B.U.heap[q]? = A.U.heap[q]?)
      (fun A a x B => ∃ (b : Ad) (h' : Hp) (ad' : Ad → Nat) (al' : List Ad), x = ad' b ∧ X' b h' ∧ okv h' (pR b) ∧ Wo g ad' al' h' B.U.heap ∧ Ex al ad al' ad' ∧ (∃ L2, B.locs = A.locs ++ L2 ∧ ∀ q ∈ L2, gF g q.base) ∧ B.cells = A.cells + mc ∧ B.slots = A.slots + ms ∧ A.U.heap.size ≤ B.U.heap.size ∧ ∀ q, q < A.U.heap.size → ¬ gF g q → B.U.heap[q]? = A.U.heap[q]?) := by
    refine tw_ofF (mc := mc) (ms := ms) (fr := gF g) (hM l ad al hokA) (maxL := nL') (by show d' + 1 ≤ R.frames; omega) (by show 8 + (nL' + 11) + 41 * d' ≤ R.locals; omega) ?_ ?_ ?_ ?_ ?_
    · intro m2 meth2 c2 A a XA hp
      refine ⟨atoms_intro fun w hw => ?_, fun mk2 hn2 => ?_, hws _ hcw.2.1 _ _ XA.warmed, hp.1, hp.2.1⟩
      · rcases List.mem_cons.mp hw with rfl | hw
        · exact hws _ hcw.1 _ _ XA.warmed
        · exact hws _ hw _ _ XA.warmed
      · obtain ⟨q1, q2, q3, q4, q5, -⟩ := hcw.2.2.2.2 A.U a mk2 hn2 (hws _ hcw.1 _ _ XA.warmed)
        exact ⟨q1, q2, q3, q4, q5⟩
    · intro m2 meth2 c2 A a g2 mk2 XA hp
      exact ⟨hp.2.2.1, by rw [show (A.U.calling g2 mk2 a).heap = A.U.heap from rfl, hp.2.2.2]; exact w, Gd.warm (U := A.U.calling g2 mk2 a) XA.warmed hgd⟩
    · rintro a first o t ⟨-, -, L2, hF, hL2⟩
      exact ⟨L2, hF, hL2⟩
    · rintro m2 meth2 c2 A a g2 mk2 v t L2 XA hp ⟨hq, hF, -⟩ hfe hL2
      rcases hq with ⟨r, h', ad', al', e1, q1, q2, q3, q4⟩ | ⟨b, h', ad', al', e1, -⟩
      · exact ⟨r, h', ad', al', Outcome.returned.inj e1, q1, q2, q3, q4, ⟨L2, rfl, hL2⟩, rfl, rfl, hF.1, hF.2⟩
      · cases e1
    · rintro m2 meth2 c2 A a g2 mk2 v t L2 XA hp ⟨hq, hF, -⟩ hfe hL2
      rcases hq with ⟨r, h', ad', al', e1, -⟩ | ⟨b, h', ad', al', e1, q1, q2, q3, q4⟩
      · cases e1
      · exact ⟨b, h', ad', al', Outcome.threw.inj e1, q1, q2, q3, q4, ⟨L2, rfl, hL2⟩, rfl, rfl, hF.1, hF.2⟩
  have hroom : 2 * ({ F0 m pc ls (full.map (em ad)) with stack := st.map (em ad) } : JFrame).monitorRoom + ((st.map (em ad)).map fun v => v.category).sum ≤ 8 := by
    rw [em_cs]
    show 2 * 0 + cs st ≤ 8
    omega
  have hfin : ∀ {B : Pt} {H' : Heap} {L2 : List Loc}, B.U.heap = H' → B.locs = locs ++ L2 → (∀ q ∈ L2, gF g q.base) → H.size ≤ H'.size → (∀ q, q < H.size → ¬ gF g q → H'[q]? = H[q]?) → va_S (gF g) s.heap H' (locs ++ L2) := by
    intro B H' L2 _ _ hq hsz2 hk2
    refine ⟨Nat.le_trans hS.1 hsz2, fun q h1 h2 => ?_, fun q hq2 => ?_⟩
    · rw [hk2 q (Nat.lt_of_lt_of_le h1 hS.1) h2]; exact hS.2.1 q h1 h2
    · rcases List.mem_append.mp hq2 with z | z
      · exact hS.2.2 q z
      · exact hq q z
  rcases hB m meth c ⟨T.setVm vm₁, locs, cells, slots⟩ { F0 m pc ls (full.map (em ad)) with stack := st.map (em ad) } ig mk (As.map (em ad)).toArray X₁ rfl (hl.1.trans hml.symm) (by rw [hb]; exact dec) hroom (X₁.named hnamed) ⟨by show cells + mc ≤ R.cells; omega, by show slots + ms ≤ R.slots; omega, rfl, hT⟩ with ⟨v, B, XB, ⟨r, h', ad', al', e1, q1, q2, q3, q4, ⟨L2, e2, hL2⟩, e3, e4, e5, e6⟩, stp⟩ | ⟨x, B, XB, ⟨b, h', ad', al', e1, q1, q2, q3, q4, ⟨L2, e2, hL2⟩, e3, e4, e5, e6⟩, stp⟩
  · have e5' : H.size ≤ B.U.heap.size := by rw [← hT]; exact e5
    have e6' : ∀ q, q < H.size → ¬ gF g q → B.U.heap[q]? = H[q]? := by rw [← hT]; exact e6
    rw [show B.locs = locs ++ L2 from e2, show B.cells = cells + mc from e3, show B.slots = slots + ms from e4] at XB
    have hS' := hfin (B := B) rfl e2 hL2 e5' e6'
    obtain ⟨t, a1, b1⟩ := KQ r h' q1 p l e R s m args below meth c Z al0 ad0 ad' al' B.U.heap (locs ++ L2) (cells + mc) (slots + ms) ls cx' hrc hec q3 (x0.tr q4) hS' (by rw [q4.eqL w hL]; exact hl) (okL_mono w q3 q4 hL)
      (fun v2 hv2 => by
        rcases List.mem_append.mp hv2 with z | z
        · cases r with
          | none => cases z
          | some r => rw [show v2 = r by simpa using z]; exact q2 r rfl
        · exact okv_mono w q3 q4 (hokst v2 z)) (by omega) (by omega) B.U rfl XB
    refine ⟨t, hstep t (stp.trans ?_), b1⟩
    have ef : ({ F0 m pc ls (full.map (em ad)) with pc := pc + 3, stack := v.toList ++ st.map (em ad) } : JFrame) = F0 m (pc + 3) ls ((r.toList ++ st).map (em ad')) := by
      rw [List.map_append, q4.eqS w hokst, e1]
      cases r <;> rfl
    show Steps p.tables e below (B.U.setTop { F0 m pc ls (full.map (em ad)) with pc := pc + 3, stack := v.toList ++ st.map (em ad) }) t
    rw [ef]
    exact a1
  · have e5' : H.size ≤ B.U.heap.size := by rw [← hT]; exact e5
    have e6' : ∀ q, q < H.size → ¬ gF g q → B.U.heap[q]? = H[q]? := by rw [← hT]; exact e6
    rw [show B.locs = locs ++ L2 from e2, show B.cells = cells + mc from e3, show B.slots = slots + ms from e4] at XB
    have hS' := hfin (B := B) rfl e2 hL2 e5' e6'
    obtain ⟨t, a1, b1⟩ := hec b h' ad' al' B.U.heap (locs ++ L2) (cells + mc) (slots + ms) pc ls L (st.map (em ad)) B.U (KX b h' q1) q3 (x0.tr q4) hS' q2 (okL_mono w q3 q4 hL) (by rw [q4.eqL w hL]; exact hl) (by omega) (by omega) rfl XB
    refine ⟨t, hstep t (stp.trans ?_), b1⟩
    rw [e1]
    exact a1
/-- the receiver: an object of class C, ours -/
def isOb (b : Ad) (C : String) : Prop := b.1 < 64 ∧ ∃ ci q, pk b.1 = .inl ci ∧ vwCl[ci]? = some q ∧ q.1 = C
theorem isOb.recv {ad : Ad → Nat} {al : List Ad} {H : Heap} {s : State} {b : Ad} {C : String} (hb : isOb b C) (w : Wo g ad al h H) (hgd : Gd g s) (ho : okv h (pR b)) : ∃ cell : Cell, H[ad b]? = some cell ∧ cell.vm.isStatics = false ∧ s.vm.findClass C = some cell.cls := by
  obtain ⟨h64, ci, q, hp, hq, rfl⟩ := hb
  have hal : b ∈ al := by
    rcases w.okr_al ho b rfl with z | z
    · exact z
    · omega
  obtain ⟨n, hn⟩ := List.getElem?_of_mem hal
  have he := wl_get (cA := gA g) (ad := ad) (h := h) hn
  rw [ce_obj hp] at he
  exact va_recv hgd.1 w.2.2.2.1 hq he
theorem map_rev (ad : Ad → Nat) (As : List PV) (b : Ad) (st : List PV) : (As.reverse ++ pR b :: st).map (em ad) = (As.map (em ad)).reverse ++ .ref (ad b) :: st.map (em ad) := by
  rw [List.map_append, List.map_cons, List.map_reverse]; rfl
theorem v_invV {i nL' n' d' mc ms : Nat} {y : MethodName} {cw : Cond} {b : Ad} {As full : List PV} {Q' : Option PV → Hp → Prop} {X' : Ad → Hp → Prop} (rc' rs' : Nat) (hM : Mx g y cw d' (pR b :: As) h mc ms Q' X') (dec : decode (kC k) pc = .ok (.invokevirtual i, 3)) (hcw : CW y cw nL' n') (hln : Cond.methodLink (kO k) i y ∈ lw_g ∧ Cond.instanceMethod y ∈ lw_g ∧ Cond.selects y.cls y y ∈ lw_g) (hb : isOb b y.cls)
    (hfull : full = As.reverse ++ pR b :: st) (hn : As.length = n') (hd : d' + 1 ≤ dd) (hnl : nL' ≤ 22) (hst : cs st ≤ 8) (h1 : rc' + mc ≤ rc) (h2 : rs' + ms ≤ rs)
    (KQ : ∀ r h', Q' r h' → V g k dd rc' rs' (pc + 3) L (r.toList ++ st) h' Q E) (KX : ∀ a h', X' a h' → E pc L a h') : V g k dd rc rs pc L full h Q E := by
  subst hfull
  refine v_callX rc' rs' hM hcw hd hnl h1 h2 hst dec (fun v hv => ?_) (fun v hv => by simp [hv]) ?_ KQ KX
  · rcases List.mem_cons.mp hv with rfl | hv
    · simp
    · simp [hv]
  · intro p l e R s m args below meth c ad al H locs cells slots ls T cx w hs hT X
    obtain ⟨hx, hbb, hml, hown, hts, hgd, -⟩ := cx
    obtain ⟨cell, g1, g2, g3⟩ := hb.recv w hgd (hs (pR b) (by simp))
    exact tw_ivV X hx hown (hts _ hln.1) (hts _ hln.2.1) (hts _ hln.2.2) hcw (hts _ hcw.1) (by rw [hT]; exact g1) g2 g3 rfl (argsL := As.map (em ad)) (by rw [List.length_map]; exact hn) (map_rev ad As b st) (by rw [hbb]; exact dec)
theorem v_invS {i nL' n' d' mc ms : Nat} {y : MethodName} {cc : ByteArray} {rt : Option FieldType} {As full : List PV} {Q' : Option PV → Hp → Prop} {X' : Ad → Hp → Prop} (rc' rs' : Nat) (hM : Mx g y (Cond.code y cc nL' rt) d' As h mc ms Q' X') (dec : decode (kC k) pc = .ok (.invokestatic i, 3)) (hcw : CW y (Cond.code y cc nL' rt) nL' n') (hln : Cond.methodLink (kO k) i y ∈ lw_g ∧ Cond.static y ∈ lw_g)
    (hfull : full = As.reverse ++ st) (hn : As.length = n') (hd : d' + 1 ≤ dd) (hnl : nL' ≤ 22) (hst : cs st ≤ 8) (h1 : rc' + mc ≤ rc) (h2 : rs' + ms ≤ rs)
    (KQ : ∀ r h', Q' r h' → V g k dd rc' rs' (pc + 3) L (r.toList ++ st) h' Q E) (KX : ∀ a h', X' a h' → E pc L a h') : V g k dd rc rs pc L full h Q E := by
  subst hfull
  refine v_callX rc' rs' hM hcw hd hnl h1 h2 hst dec (fun v hv => by simp [hv]) (fun v hv => by simp [hv]) ?_ KQ KX
  intro p l e R s m args below meth c ad al H locs cells slots ls T cx w hs hT X
  obtain ⟨hx, hbb, hml, hown, hts, hgd, -⟩ := cx
  exact tw_ivS X hx hown (hts _ hln.1) (hts _ hln.2) (hts _ hcw.2.1) hcw (hts _ hcw.1) rfl (argsL := As.map (em ad)) (by rw [List.length_map]; exact hn) (by show (As.reverse ++ st).map (em ad) = _; rw [List.map_append, List.map_reverse]) (by rw [hbb]; exact dec)
theorem v_invI {i nL' n' d' mc ms : Nat} {y : MethodName} {cc : ByteArray} {b : Ad} {As full : List PV} {Q' : Option PV → Hp → Prop} {X' : Ad → Hp → Prop} (rc' rs' : Nat) (hM : Mx g y (Cond.code y cc nL' none) d' (pR b :: As) h mc ms Q' X') (dec : decode (kC k) pc = .ok (.invokespecial i, 3)) (hcw : CW y (Cond.code y cc nL' none) nL' n') (hy : y.name = "<init>") (hln : (Cond.methodLink (kO k) i y ∈ lw_g ∨ ∃ host, Cond.methodLinkNest (kO k) i y host ∈ lw_n) ∧ Cond.instanceMethod y ∈ lw_g)
    (hfull : full = As.reverse ++ pR b :: st) (hn : As.length = n') (hd : d' + 1 ≤ dd) (hnl : nL' ≤ 22) (hst : cs st ≤ 8) (h1 : rc' + mc ≤ rc) (h2 : rs' + ms ≤ rs)
    (KQ : ∀ r h', Q' r h' → V g k dd rc' rs' (pc + 3) L (r.toList ++ st) h' Q E) (KX : ∀ a h', X' a h' → E pc L a h') : V g k dd rc rs pc L full h Q E := by
  subst hfull
  refine v_callX rc' rs' hM hcw hd hnl h1 h2 hst dec (fun v hv => ?_) (fun v hv => by simp [hv]) ?_ KQ KX
  · rcases List.mem_cons.mp hv with rfl | hv
    · simp
    · simp [hv]
  · intro p l e R s m args below meth c ad al H locs cells slots ls T cx w hs hT X
    obtain ⟨hx, hbb, hml, hown, hts, hgd, -⟩ := cx
    rcases hln.1 with z | ⟨host, z⟩
    · exact tw_ivI X hx hown hy (hts _ z) (hts _ hln.2) hcw (hts _ hcw.1) rfl (argsL := As.map (em ad)) (by rw [List.length_map]; exact hn) (map_rev ad As b st) (by rw [hbb]; exact dec)
    · exact tw_ivIN X hx hown hy (va_Nw.use rfl (hgd.2.1 _ z)) (hts _ hln.2) hcw (hts _ hcw.1) rfl (argsL := As.map (em ad)) (by rw [List.length_map]; exact hn) (map_rev ad As b st) (by rw [hbb]; exact dec)
/-- Object's own constructor -/
theorem v_obj {i : Nat} {o : Option Ad} (d : decode (kC k) pc = .ok (.invokespecial i, 3)) (hln : Cond.methodLink (kO k) i Lib.objectInit ∈ lw_g) (h2 : Cond.instanceMethod Lib.objectInit ∈ lw_g) (h3 : Cond.code Lib.objectInit ⟨#[0xb1]⟩ 1 none ∈ lw_g) (ho : o ≠ none) (hd : 1 ≤ dd) (hst : cs st ≤ 8)
    (K : V g k dd rc rs (pc + 3) L st h Q E) : V g k dd rc rs pc L (pO o :: st) h Q E := by
  intro p l e R s m args below meth c Z al0 ad0 ad al H locs cells slots ls cx hrc hec w x0 hS hl hL hs hc hsl
  have K2 := K p l e R s m args below meth c Z al0 ad0 ad al H locs cells slots ls cx hrc hec w x0 hS hl hL hs.t hc hsl
  obtain ⟨hx, hb, hml, hown, hts, hgd, hfr, hlo, -⟩ := cx
  cases o with
  | none => exact absurd rfl ho
  | some a => exact W.objInit hx hb hown (hts _ hln) (hts _ h2) (hts _ h3) rfl (hl.1.trans hml.symm) rfl d (by omega) (by rw [em_cs]; show 2 * 0 + cs st + 12 ≤ R.locals; omega) K2
theorem v_athrow {a : Ad} (d : decode (kC k) pc = .ok (.athrow, 1)) (he : E pc L a h) : V g k dd rc rs pc L (pR a :: st) h Q E := by
  intro p l e R s m args below meth c Z al0 ad0 ad al H locs cells slots ls cx hrc hec w x0 hS hl hL hs hc hsl
  intro T hT X
  obtain ⟨t, a1, b1⟩ := hec a h ad al H locs cells slots pc ls L (st.map (em ad)) T he w x0 hS hs.hd hL hl (by omega) (by omega) hT X
  refine ⟨t, ?_, b1⟩
  obtain ⟨hx, hb, -⟩ := cx
  have hdg : decode c.code pc = .ok (.athrow, 1) := by rw [hb]; exact d
  show Steps p.tables e below (T.setTop (F0 m pc ls (.ref (ad a) :: st.map (em ad)))) t
  jvm_step X.here [hx, hdg, athrow.wp_sem]
  exact a1
end VR5
end
