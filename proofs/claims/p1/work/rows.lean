section
-- ===== PART A: goes FIRST, ahead of the names: the tables' words, and 'selects' of the private methods out of them =====
/-- a private method of a class that the tables say can be made, by its rows of tables_1 -/
def lw_okq (q : MethodName × Nat) : Prop := (q.1.cls ≠ "java/lang/invoke/MethodHandle" ∧ q.1.cls ≠ "java/lang/invoke/VarHandle") ∧ Cond.instantiable q.1.cls q.2 ∈ tables_1 ∧ Cond.privateMethod q.1 ∈ tables_1 ∧ Cond.instanceMethod q.1 ∈ tables_1
theorem lw_p0 : lw_okq (⟨"SightedMonths$Reader", "step", "()V"⟩, 7) := ⟨⟨by decide +kernel, by decide +kernel⟩, List.mem_of_getElem? (i := 31) (by decide +kernel), List.mem_of_getElem? (i := 446) (by decide +kernel), List.mem_of_getElem? (i := 447) (by decide +kernel)⟩
theorem lw_p1 : lw_okq (⟨"SightedMonths$Reader", "byteAt", "(I)I"⟩, 7) := ⟨⟨by decide +kernel, by decide +kernel⟩, List.mem_of_getElem? (i := 31) (by decide +kernel), List.mem_of_getElem? (i := 450) (by decide +kernel), List.mem_of_getElem? (i := 451) (by decide +kernel)⟩
theorem lw_p2 : lw_okq (⟨"SightedMonths$Reader", "readLine", "()V"⟩, 7) := ⟨⟨by decide +kernel, by decide +kernel⟩, List.mem_of_getElem? (i := 31) (by decide +kernel), List.mem_of_getElem? (i := 463) (by decide +kernel), List.mem_of_getElem? (i := 464) (by decide +kernel)⟩
theorem lw_p3 : lw_okq (⟨"SightedMonths$Reader", "readFirst", "()V"⟩, 7) := ⟨⟨by decide +kernel, by decide +kernel⟩, List.mem_of_getElem? (i := 31) (by decide +kernel), List.mem_of_getElem? (i := 467) (by decide +kernel), List.mem_of_getElem? (i := 468) (by decide +kernel)⟩
theorem lw_p4 : lw_okq (⟨"SightedMonths$Reader", "passWord", "(Ljava/lang/String;)V"⟩, 7) := ⟨⟨by decide +kernel, by decide +kernel⟩, List.mem_of_getElem? (i := 31) (by decide +kernel), List.mem_of_getElem? (i := 472) (by decide +kernel), List.mem_of_getElem? (i := 473) (by decide +kernel)⟩
theorem lw_p5 : lw_okq (⟨"SightedMonths$Reader", "isWord", "(Ljava/lang/String;)Z"⟩, 7) := ⟨⟨by decide +kernel, by decide +kernel⟩, List.mem_of_getElem? (i := 31) (by decide +kernel), List.mem_of_getElem? (i := 476) (by decide +kernel), List.mem_of_getElem? (i := 477) (by decide +kernel)⟩
theorem lw_p6 : lw_okq (⟨"SightedMonths$Reader", "expect", "(ZI)V"⟩, 7) := ⟨⟨by decide +kernel, by decide +kernel⟩, List.mem_of_getElem? (i := 31) (by decide +kernel), List.mem_of_getElem? (i := 528) (by decide +kernel), List.mem_of_getElem? (i := 529) (by decide +kernel)⟩
theorem lw_p7 : lw_okq (⟨"SightedMonths$Reader", "blame", "(II)V"⟩, 7) := ⟨⟨by decide +kernel, by decide +kernel⟩, List.mem_of_getElem? (i := 31) (by decide +kernel), List.mem_of_getElem? (i := 532) (by decide +kernel), List.mem_of_getElem? (i := 533) (by decide +kernel)⟩
theorem lw_p8 : lw_okq (⟨"SightedMonths$Reader", "passNumber", "(II)I"⟩, 7) := ⟨⟨by decide +kernel, by decide +kernel⟩, List.mem_of_getElem? (i := 31) (by decide +kernel), List.mem_of_getElem? (i := 537) (by decide +kernel), List.mem_of_getElem? (i := 538) (by decide +kernel)⟩
theorem lw_p9 : lw_okq (⟨"SightedMonths$Reader", "valueHere", "()I"⟩, 7) := ⟨⟨by decide +kernel, by decide +kernel⟩, List.mem_of_getElem? (i := 31) (by decide +kernel), List.mem_of_getElem? (i := 541) (by decide +kernel), List.mem_of_getElem? (i := 542) (by decide +kernel)⟩
theorem lw_p10 : lw_okq (⟨"SightedMonths$Reader", "readMoon", "()V"⟩, 7) := ⟨⟨by decide +kernel, by decide +kernel⟩, List.mem_of_getElem? (i := 31) (by decide +kernel), List.mem_of_getElem? (i := 552) (by decide +kernel), List.mem_of_getElem? (i := 553) (by decide +kernel)⟩
theorem lw_p11 : lw_okq (⟨"SightedMonths$Reader", "passHead", "(Z)V"⟩, 7) := ⟨⟨by decide +kernel, by decide +kernel⟩, List.mem_of_getElem? (i := 31) (by decide +kernel), List.mem_of_getElem? (i := 556) (by decide +kernel), List.mem_of_getElem? (i := 557) (by decide +kernel)⟩
theorem lw_p12 : lw_okq (⟨"SightedMonths$Reader", "readPlace", "()V"⟩, 7) := ⟨⟨by decide +kernel, by decide +kernel⟩, List.mem_of_getElem? (i := 31) (by decide +kernel), List.mem_of_getElem? (i := 567) (by decide +kernel), List.mem_of_getElem? (i := 568) (by decide +kernel)⟩
theorem lw_p13 : lw_okq (⟨"SightedMonths$Reader", "passName", "(Z)I"⟩, 7) := ⟨⟨by decide +kernel, by decide +kernel⟩, List.mem_of_getElem? (i := 31) (by decide +kernel), List.mem_of_getElem? (i := 571) (by decide +kernel), List.mem_of_getElem? (i := 572) (by decide +kernel)⟩
theorem lw_p14 : lw_okq (⟨"SightedMonths$Reader", "nameHere", "()I"⟩, 7) := ⟨⟨by decide +kernel, by decide +kernel⟩, List.mem_of_getElem? (i := 31) (by decide +kernel), List.mem_of_getElem? (i := 575) (by decide +kernel), List.mem_of_getElem? (i := 576) (by decide +kernel)⟩
theorem lw_p15 : lw_okq (⟨"SightedMonths$Reader", "readReport", "(I)V"⟩, 7) := ⟨⟨by decide +kernel, by decide +kernel⟩, List.mem_of_getElem? (i := 31) (by decide +kernel), List.mem_of_getElem? (i := 589) (by decide +kernel), List.mem_of_getElem? (i := 590) (by decide +kernel)⟩
def lw_privs_1 : List (MethodName × Nat) := [(⟨"SightedMonths$Reader", "step", "()V"⟩, 7), (⟨"SightedMonths$Reader", "byteAt", "(I)I"⟩, 7), (⟨"SightedMonths$Reader", "readLine", "()V"⟩, 7), (⟨"SightedMonths$Reader", "readFirst", "()V"⟩, 7), (⟨"SightedMonths$Reader", "passWord", "(Ljava/lang/String;)V"⟩, 7), (⟨"SightedMonths$Reader", "isWord", "(Ljava/lang/String;)Z"⟩, 7), (⟨"SightedMonths$Reader", "expect", "(ZI)V"⟩, 7), (⟨"SightedMonths$Reader", "blame", "(II)V"⟩, 7), (⟨"SightedMonths$Reader", "passNumber", "(II)I"⟩, 7), (⟨"SightedMonths$Reader", "valueHere", "()I"⟩, 7), (⟨"SightedMonths$Reader", "readMoon", "()V"⟩, 7), (⟨"SightedMonths$Reader", "passHead", "(Z)V"⟩, 7), (⟨"SightedMonths$Reader", "readPlace", "()V"⟩, 7), (⟨"SightedMonths$Reader", "passName", "(Z)I"⟩, 7), (⟨"SightedMonths$Reader", "nameHere", "()I"⟩, 7), (⟨"SightedMonths$Reader", "readReport", "(I)V"⟩, 7)]
theorem lw_r1 : ∀ q ∈ lw_privs_1, lw_okq q := List.forall_mem_cons.mpr ⟨lw_p0, List.forall_mem_cons.mpr ⟨lw_p1, List.forall_mem_cons.mpr ⟨lw_p2, List.forall_mem_cons.mpr ⟨lw_p3, List.forall_mem_cons.mpr ⟨lw_p4, List.forall_mem_cons.mpr ⟨lw_p5, List.forall_mem_cons.mpr ⟨lw_p6, List.forall_mem_cons.mpr ⟨lw_p7, List.forall_mem_cons.mpr ⟨lw_p8, List.forall_mem_cons.mpr ⟨lw_p9, List.forall_mem_cons.mpr ⟨lw_p10, List.forall_mem_cons.mpr ⟨lw_p11, List.forall_mem_cons.mpr ⟨lw_p12, List.forall_mem_cons.mpr ⟨lw_p13, List.forall_mem_cons.mpr ⟨lw_p14, List.forall_mem_cons.mpr ⟨lw_p15, fun _ h => absurd h List.not_mem_nil⟩⟩⟩⟩⟩⟩⟩⟩⟩⟩⟩⟩⟩⟩⟩⟩
theorem lw_p16 : lw_okq (⟨"SightedMonths$Reader", "readDeed", "()V"⟩, 7) := ⟨⟨by decide +kernel, by decide +kernel⟩, List.mem_of_getElem? (i := 31) (by decide +kernel), List.mem_of_getElem? (i := 603) (by decide +kernel), List.mem_of_getElem? (i := 604) (by decide +kernel)⟩
theorem lw_p17 : lw_okq (⟨"SightedMonths$Reader", "passSign", "()V"⟩, 7) := ⟨⟨by decide +kernel, by decide +kernel⟩, List.mem_of_getElem? (i := 31) (by decide +kernel), List.mem_of_getElem? (i := 614) (by decide +kernel), List.mem_of_getElem? (i := 615) (by decide +kernel)⟩
theorem lw_p18 : lw_okq (⟨"SightedMonths", "forget", "()V"⟩, 16) := ⟨⟨by decide +kernel, by decide +kernel⟩, List.mem_of_getElem? (i := 23) (by decide +kernel), List.mem_of_getElem? (i := 618) (by decide +kernel), List.mem_of_getElem? (i := 619) (by decide +kernel)⟩
theorem lw_p19 : lw_okq (⟨"SightedMonths", "hasPlace", "(I)Z"⟩, 16) := ⟨⟨by decide +kernel, by decide +kernel⟩, List.mem_of_getElem? (i := 23) (by decide +kernel), List.mem_of_getElem? (i := 634) (by decide +kernel), List.mem_of_getElem? (i := 635) (by decide +kernel)⟩
theorem lw_p20 : lw_okq (⟨"SightedMonths", "hasReport", "(I)Z"⟩, 16) := ⟨⟨by decide +kernel, by decide +kernel⟩, List.mem_of_getElem? (i := 23) (by decide +kernel), List.mem_of_getElem? (i := 650) (by decide +kernel), List.mem_of_getElem? (i := 651) (by decide +kernel)⟩
theorem lw_p21 : lw_okq (⟨"SightedMonths", "hasDeed", "(I)Z"⟩, 16) := ⟨⟨by decide +kernel, by decide +kernel⟩, List.mem_of_getElem? (i := 23) (by decide +kernel), List.mem_of_getElem? (i := 658) (by decide +kernel), List.mem_of_getElem? (i := 659) (by decide +kernel)⟩
theorem lw_p22 : lw_okq (⟨"SightedMonths", "hasMonth", "(III)Z"⟩, 16) := ⟨⟨by decide +kernel, by decide +kernel⟩, List.mem_of_getElem? (i := 23) (by decide +kernel), List.mem_of_getElem? (i := 666) (by decide +kernel), List.mem_of_getElem? (i := 667) (by decide +kernel)⟩
theorem lw_p23 : lw_okq (⟨"SightedMonths", "isTold", "()Z"⟩, 16) := ⟨⟨by decide +kernel, by decide +kernel⟩, List.mem_of_getElem? (i := 23) (by decide +kernel), List.mem_of_getElem? (i := 670) (by decide +kernel), List.mem_of_getElem? (i := 671) (by decide +kernel)⟩
theorem lw_p24 : lw_okq (⟨"SightedMonths", "hasTime", "(I)Z"⟩, 16) := ⟨⟨by decide +kernel, by decide +kernel⟩, List.mem_of_getElem? (i := 23) (by decide +kernel), List.mem_of_getElem? (i := 682) (by decide +kernel), List.mem_of_getElem? (i := 683) (by decide +kernel)⟩
theorem lw_p25 : lw_okq (⟨"SightedMonths", "courtBy", "(I)LSightedMonths$Court;"⟩, 16) := ⟨⟨by decide +kernel, by decide +kernel⟩, List.mem_of_getElem? (i := 23) (by decide +kernel), List.mem_of_getElem? (i := 686) (by decide +kernel), List.mem_of_getElem? (i := 687) (by decide +kernel)⟩
theorem lw_p26 : lw_okq (⟨"SightedMonths$Court", "lineUp", "(LSightedMonths$Almanac;I)V"⟩, 7) := ⟨⟨by decide +kernel, by decide +kernel⟩, List.mem_of_getElem? (i := 272) (by decide +kernel), List.mem_of_getElem? (i := 705) (by decide +kernel), List.mem_of_getElem? (i := 706) (by decide +kernel)⟩
theorem lw_p27 : lw_okq (⟨"SightedMonths$Court", "insert", "(IJ)V"⟩, 7) := ⟨⟨by decide +kernel, by decide +kernel⟩, List.mem_of_getElem? (i := 272) (by decide +kernel), List.mem_of_getElem? (i := 717) (by decide +kernel), List.mem_of_getElem? (i := 718) (by decide +kernel)⟩
theorem lw_p28 : lw_okq (⟨"SightedMonths$Court", "verdictOn", "(LSightedMonths$Almanac;LSightedMonths$Report;)I"⟩, 7) := ⟨⟨by decide +kernel, by decide +kernel⟩, List.mem_of_getElem? (i := 272) (by decide +kernel), List.mem_of_getElem? (i := 725) (by decide +kernel), List.mem_of_getElem? (i := 726) (by decide +kernel)⟩
theorem lw_p29 : lw_okq (⟨"SightedMonths", "canBothBe", "(II)Z"⟩, 16) := ⟨⟨by decide +kernel, by decide +kernel⟩, List.mem_of_getElem? (i := 23) (by decide +kernel), List.mem_of_getElem? (i := 778) (by decide +kernel), List.mem_of_getElem? (i := 779) (by decide +kernel)⟩
theorem lw_p30 : lw_okq (⟨"SightedMonths", "unlikeBegins", "([I[I)I"⟩, 16) := ⟨⟨by decide +kernel, by decide +kernel⟩, List.mem_of_getElem? (i := 23) (by decide +kernel), List.mem_of_getElem? (i := 817) (by decide +kernel), List.mem_of_getElem? (i := 818) (by decide +kernel)⟩
theorem lw_p31 : lw_okq (⟨"SightedMonths", "judgeAlone", "(II)V"⟩, 16) := ⟨⟨by decide +kernel, by decide +kernel⟩, List.mem_of_getElem? (i := 23) (by decide +kernel), List.mem_of_getElem? (i := 825) (by decide +kernel), List.mem_of_getElem? (i := 826) (by decide +kernel)⟩
def lw_privs_2 : List (MethodName × Nat) := [(⟨"SightedMonths$Reader", "readDeed", "()V"⟩, 7), (⟨"SightedMonths$Reader", "passSign", "()V"⟩, 7), (⟨"SightedMonths", "forget", "()V"⟩, 16), (⟨"SightedMonths", "hasPlace", "(I)Z"⟩, 16), (⟨"SightedMonths", "hasReport", "(I)Z"⟩, 16), (⟨"SightedMonths", "hasDeed", "(I)Z"⟩, 16), (⟨"SightedMonths", "hasMonth", "(III)Z"⟩, 16), (⟨"SightedMonths", "isTold", "()Z"⟩, 16), (⟨"SightedMonths", "hasTime", "(I)Z"⟩, 16), (⟨"SightedMonths", "courtBy", "(I)LSightedMonths$Court;"⟩, 16), (⟨"SightedMonths$Court", "lineUp", "(LSightedMonths$Almanac;I)V"⟩, 7), (⟨"SightedMonths$Court", "insert", "(IJ)V"⟩, 7), (⟨"SightedMonths$Court", "verdictOn", "(LSightedMonths$Almanac;LSightedMonths$Report;)I"⟩, 7), (⟨"SightedMonths", "canBothBe", "(II)Z"⟩, 16), (⟨"SightedMonths", "unlikeBegins", "([I[I)I"⟩, 16), (⟨"SightedMonths", "judgeAlone", "(II)V"⟩, 16)]
theorem lw_r2 : ∀ q ∈ lw_privs_2, lw_okq q := List.forall_mem_cons.mpr ⟨lw_p16, List.forall_mem_cons.mpr ⟨lw_p17, List.forall_mem_cons.mpr ⟨lw_p18, List.forall_mem_cons.mpr ⟨lw_p19, List.forall_mem_cons.mpr ⟨lw_p20, List.forall_mem_cons.mpr ⟨lw_p21, List.forall_mem_cons.mpr ⟨lw_p22, List.forall_mem_cons.mpr ⟨lw_p23, List.forall_mem_cons.mpr ⟨lw_p24, List.forall_mem_cons.mpr ⟨lw_p25, List.forall_mem_cons.mpr ⟨lw_p26, List.forall_mem_cons.mpr ⟨lw_p27, List.forall_mem_cons.mpr ⟨lw_p28, List.forall_mem_cons.mpr ⟨lw_p29, List.forall_mem_cons.mpr ⟨lw_p30, List.forall_mem_cons.mpr ⟨lw_p31, fun _ h => absurd h List.not_mem_nil⟩⟩⟩⟩⟩⟩⟩⟩⟩⟩⟩⟩⟩⟩⟩⟩
theorem lw_p32 : lw_okq (⟨"SightedMonths", "tallyBy", "(I)LSightedMonths$Tally;"⟩, 16) := ⟨⟨by decide +kernel, by decide +kernel⟩, List.mem_of_getElem? (i := 23) (by decide +kernel), List.mem_of_getElem? (i := 844) (by decide +kernel), List.mem_of_getElem? (i := 845) (by decide +kernel)⟩
theorem lw_p33 : lw_okq (⟨"SightedMonths$Tally", "countBefore", "(LSightedMonths$Frame;)V"⟩, 6) := ⟨⟨by decide +kernel, by decide +kernel⟩, List.mem_of_getElem? (i := 310) (by decide +kernel), List.mem_of_getElem? (i := 855) (by decide +kernel), List.mem_of_getElem? (i := 856) (by decide +kernel)⟩
theorem lw_p34 : lw_okq (⟨"SightedMonths$Tally", "takeOnWithFull", "(II)V"⟩, 6) := ⟨⟨by decide +kernel, by decide +kernel⟩, List.mem_of_getElem? (i := 310) (by decide +kernel), List.mem_of_getElem? (i := 863) (by decide +kernel), List.mem_of_getElem? (i := 864) (by decide +kernel)⟩
theorem lw_p35 : lw_okq (⟨"SightedMonths$Tally", "takeOnWithLean", "(II)V"⟩, 6) := ⟨⟨by decide +kernel, by decide +kernel⟩, List.mem_of_getElem? (i := 310) (by decide +kernel), List.mem_of_getElem? (i := 876) (by decide +kernel), List.mem_of_getElem? (i := 877) (by decide +kernel)⟩
theorem lw_p36 : lw_okq (⟨"SightedMonths$Tally", "countBehind", "()V"⟩, 6) := ⟨⟨by decide +kernel, by decide +kernel⟩, List.mem_of_getElem? (i := 310) (by decide +kernel), List.mem_of_getElem? (i := 881) (by decide +kernel), List.mem_of_getElem? (i := 882) (by decide +kernel)⟩
theorem lw_p37 : lw_okq (⟨"SightedMonths$Tally", "withFull", "(III)I"⟩, 6) := ⟨⟨by decide +kernel, by decide +kernel⟩, List.mem_of_getElem? (i := 310) (by decide +kernel), List.mem_of_getElem? (i := 886) (by decide +kernel), List.mem_of_getElem? (i := 887) (by decide +kernel)⟩
theorem lw_p38 : lw_okq (⟨"SightedMonths$Tally", "withLean", "(III)I"⟩, 6) := ⟨⟨by decide +kernel, by decide +kernel⟩, List.mem_of_getElem? (i := 310) (by decide +kernel), List.mem_of_getElem? (i := 890) (by decide +kernel), List.mem_of_getElem? (i := 891) (by decide +kernel)⟩
theorem lw_p39 : lw_okq (⟨"SightedMonths$Tally", "countStarts", "()V"⟩, 6) := ⟨⟨by decide +kernel, by decide +kernel⟩, List.mem_of_getElem? (i := 310) (by decide +kernel), List.mem_of_getElem? (i := 894) (by decide +kernel), List.mem_of_getElem? (i := 895) (by decide +kernel)⟩
theorem lw_p40 : lw_okq (⟨"SightedMonths", "hasDate", "(II)Z"⟩, 16) := ⟨⟨by decide +kernel, by decide +kernel⟩, List.mem_of_getElem? (i := 23) (by decide +kernel), List.mem_of_getElem? (i := 982) (by decide +kernel), List.mem_of_getElem? (i := 983) (by decide +kernel)⟩
theorem lw_p41 : lw_okq (⟨"SightedMonths$Search", "fillCell", "(II)V"⟩, 5) := ⟨⟨by decide +kernel, by decide +kernel⟩, List.mem_of_getElem? (i := 335) (by decide +kernel), List.mem_of_getElem? (i := 1019) (by decide +kernel), List.mem_of_getElem? (i := 1020) (by decide +kernel)⟩
theorem lw_p42 : lw_okq (⟨"SightedMonths$Search", "withFull", "(III)I"⟩, 5) := ⟨⟨by decide +kernel, by decide +kernel⟩, List.mem_of_getElem? (i := 335) (by decide +kernel), List.mem_of_getElem? (i := 1025) (by decide +kernel), List.mem_of_getElem? (i := 1026) (by decide +kernel)⟩
theorem lw_p43 : lw_okq (⟨"SightedMonths$Search", "withLean", "(III)I"⟩, 5) := ⟨⟨by decide +kernel, by decide +kernel⟩, List.mem_of_getElem? (i := 335) (by decide +kernel), List.mem_of_getElem? (i := 1031) (by decide +kernel), List.mem_of_getElem? (i := 1032) (by decide +kernel)⟩
theorem lw_p44 : lw_okq (⟨"SightedMonths", "backReport", "(LSightedMonths$Report;)V"⟩, 16) := ⟨⟨by decide +kernel, by decide +kernel⟩, List.mem_of_getElem? (i := 23) (by decide +kernel), List.mem_of_getElem? (i := 1049) (by decide +kernel), List.mem_of_getElem? (i := 1050) (by decide +kernel)⟩
theorem lw_p45 : lw_okq (⟨"SightedMonths", "historyNow", "()LSightedMonths$History;"⟩, 16) := ⟨⟨by decide +kernel, by decide +kernel⟩, List.mem_of_getElem? (i := 23) (by decide +kernel), List.mem_of_getElem? (i := 1082) (by decide +kernel), List.mem_of_getElem? (i := 1083) (by decide +kernel)⟩
theorem lw_p46 : lw_okq (⟨"SightedMonths$History", "changesAt", "(II)Z"⟩, 3) := ⟨⟨by decide +kernel, by decide +kernel⟩, List.mem_of_getElem? (i := 357) (by decide +kernel), List.mem_of_getElem? (i := 1101) (by decide +kernel), List.mem_of_getElem? (i := 1102) (by decide +kernel)⟩
theorem lw_p47 : lw_okq (⟨"SightedMonths", "putOut", "(C)V"⟩, 16) := ⟨⟨by decide +kernel, by decide +kernel⟩, List.mem_of_getElem? (i := 23) (by decide +kernel), List.mem_of_getElem? (i := 1117) (by decide +kernel), List.mem_of_getElem? (i := 1118) (by decide +kernel)⟩
def lw_privs_3 : List (MethodName × Nat) := [(⟨"SightedMonths", "tallyBy", "(I)LSightedMonths$Tally;"⟩, 16), (⟨"SightedMonths$Tally", "countBefore", "(LSightedMonths$Frame;)V"⟩, 6), (⟨"SightedMonths$Tally", "takeOnWithFull", "(II)V"⟩, 6), (⟨"SightedMonths$Tally", "takeOnWithLean", "(II)V"⟩, 6), (⟨"SightedMonths$Tally", "countBehind", "()V"⟩, 6), (⟨"SightedMonths$Tally", "withFull", "(III)I"⟩, 6), (⟨"SightedMonths$Tally", "withLean", "(III)I"⟩, 6), (⟨"SightedMonths$Tally", "countStarts", "()V"⟩, 6), (⟨"SightedMonths", "hasDate", "(II)Z"⟩, 16), (⟨"SightedMonths$Search", "fillCell", "(II)V"⟩, 5), (⟨"SightedMonths$Search", "withFull", "(III)I"⟩, 5), (⟨"SightedMonths$Search", "withLean", "(III)I"⟩, 5), (⟨"SightedMonths", "backReport", "(LSightedMonths$Report;)V"⟩, 16), (⟨"SightedMonths", "historyNow", "()LSightedMonths$History;"⟩, 16), (⟨"SightedMonths$History", "changesAt", "(II)Z"⟩, 3), (⟨"SightedMonths", "putOut", "(C)V"⟩, 16)]
theorem lw_r3 : ∀ q ∈ lw_privs_3, lw_okq q := List.forall_mem_cons.mpr ⟨lw_p32, List.forall_mem_cons.mpr ⟨lw_p33, List.forall_mem_cons.mpr ⟨lw_p34, List.forall_mem_cons.mpr ⟨lw_p35, List.forall_mem_cons.mpr ⟨lw_p36, List.forall_mem_cons.mpr ⟨lw_p37, List.forall_mem_cons.mpr ⟨lw_p38, List.forall_mem_cons.mpr ⟨lw_p39, List.forall_mem_cons.mpr ⟨lw_p40, List.forall_mem_cons.mpr ⟨lw_p41, List.forall_mem_cons.mpr ⟨lw_p42, List.forall_mem_cons.mpr ⟨lw_p43, List.forall_mem_cons.mpr ⟨lw_p44, List.forall_mem_cons.mpr ⟨lw_p45, List.forall_mem_cons.mpr ⟨lw_p46, List.forall_mem_cons.mpr ⟨lw_p47, fun _ h => absurd h List.not_mem_nil⟩⟩⟩⟩⟩⟩⟩⟩⟩⟩⟩⟩⟩⟩⟩⟩
theorem lw_p48 : lw_okq (⟨"SightedMonths", "endByOfficial", "(II)I"⟩, 16) := ⟨⟨by decide +kernel, by decide +kernel⟩, List.mem_of_getElem? (i := 23) (by decide +kernel), List.mem_of_getElem? (i := 1129) (by decide +kernel), List.mem_of_getElem? (i := 1130) (by decide +kernel)⟩
theorem lw_p49 : lw_okq (⟨"SightedMonths", "leastLead", "(ILSightedMonths$Deed;LSightedMonths$Deed;)I"⟩, 16) := ⟨⟨by decide +kernel, by decide +kernel⟩, List.mem_of_getElem? (i := 23) (by decide +kernel), List.mem_of_getElem? (i := 1159) (by decide +kernel), List.mem_of_getElem? (i := 1160) (by decide +kernel)⟩
theorem lw_p50 : lw_okq (⟨"SightedMonthsModel", "movesAll", "(Z)V"⟩, 57) := ⟨⟨by decide +kernel, by decide +kernel⟩, List.mem_of_getElem? (i := 1195) (by decide +kernel), List.mem_of_getElem? (i := 1389) (by decide +kernel), List.mem_of_getElem? (i := 1390) (by decide +kernel)⟩
theorem lw_p51 : lw_okq (⟨"SightedMonthsModel", "moves", "(I)I"⟩, 57) := ⟨⟨by decide +kernel, by decide +kernel⟩, List.mem_of_getElem? (i := 1195) (by decide +kernel), List.mem_of_getElem? (i := 1393) (by decide +kernel), List.mem_of_getElem? (i := 1394) (by decide +kernel)⟩
theorem lw_p52 : lw_okq (⟨"SightedMonthsModel", "movesRow", "([I)V"⟩, 57) := ⟨⟨by decide +kernel, by decide +kernel⟩, List.mem_of_getElem? (i := 1195) (by decide +kernel), List.mem_of_getElem? (i := 1397) (by decide +kernel), List.mem_of_getElem? (i := 1398) (by decide +kernel)⟩
theorem lw_p53 : lw_okq (⟨"SightedMonthsModel", "next", "()V"⟩, 57) := ⟨⟨by decide +kernel, by decide +kernel⟩, List.mem_of_getElem? (i := 1195) (by decide +kernel), List.mem_of_getElem? (i := 1401) (by decide +kernel), List.mem_of_getElem? (i := 1402) (by decide +kernel)⟩
theorem lw_p54 : lw_okq (⟨"SightedMonthsModel", "isAt", "(II)Z"⟩, 57) := ⟨⟨by decide +kernel, by decide +kernel⟩, List.mem_of_getElem? (i := 1195) (by decide +kernel), List.mem_of_getElem? (i := 1405) (by decide +kernel), List.mem_of_getElem? (i := 1406) (by decide +kernel)⟩
theorem lw_p55 : lw_okq (⟨"SightedMonthsModel", "readsLine", "()V"⟩, 57) := ⟨⟨by decide +kernel, by decide +kernel⟩, List.mem_of_getElem? (i := 1195) (by decide +kernel), List.mem_of_getElem? (i := 1411) (by decide +kernel), List.mem_of_getElem? (i := 1412) (by decide +kernel)⟩
theorem lw_p56 : lw_okq (⟨"SightedMonthsModel", "readsHead", "()V"⟩, 57) := ⟨⟨by decide +kernel, by decide +kernel⟩, List.mem_of_getElem? (i := 1195) (by decide +kernel), List.mem_of_getElem? (i := 1415) (by decide +kernel), List.mem_of_getElem? (i := 1416) (by decide +kernel)⟩
theorem lw_p57 : lw_okq (⟨"SightedMonthsModel", "word", "(Ljava/lang/String;)V"⟩, 57) := ⟨⟨by decide +kernel, by decide +kernel⟩, List.mem_of_getElem? (i := 1195) (by decide +kernel), List.mem_of_getElem? (i := 1420) (by decide +kernel), List.mem_of_getElem? (i := 1421) (by decide +kernel)⟩
theorem lw_p58 : lw_okq (⟨"SightedMonthsModel", "isWord", "(Ljava/lang/String;)Z"⟩, 57) := ⟨⟨by decide +kernel, by decide +kernel⟩, List.mem_of_getElem? (i := 1195) (by decide +kernel), List.mem_of_getElem? (i := 1424) (by decide +kernel), List.mem_of_getElem? (i := 1425) (by decide +kernel)⟩
theorem lw_p59 : lw_okq (⟨"SightedMonthsModel", "passes", "(Z)V"⟩, 57) := ⟨⟨by decide +kernel, by decide +kernel⟩, List.mem_of_getElem? (i := 1195) (by decide +kernel), List.mem_of_getElem? (i := 1430) (by decide +kernel), List.mem_of_getElem? (i := 1431) (by decide +kernel)⟩
theorem lw_p60 : lw_okq (⟨"SightedMonthsModel", "faults", "(I)V"⟩, 57) := ⟨⟨by decide +kernel, by decide +kernel⟩, List.mem_of_getElem? (i := 1195) (by decide +kernel), List.mem_of_getElem? (i := 1434) (by decide +kernel), List.mem_of_getElem? (i := 1435) (by decide +kernel)⟩
theorem lw_p61 : lw_okq (⟨"SightedMonthsModel", "faultsAt", "(II)V"⟩, 57) := ⟨⟨by decide +kernel, by decide +kernel⟩, List.mem_of_getElem? (i := 1195) (by decide +kernel), List.mem_of_getElem? (i := 1438) (by decide +kernel), List.mem_of_getElem? (i := 1439) (by decide +kernel)⟩
theorem lw_p62 : lw_okq (⟨"SightedMonthsModel", "numberBehind", "(Ljava/lang/String;II)I"⟩, 57) := ⟨⟨by decide +kernel, by decide +kernel⟩, List.mem_of_getElem? (i := 1195) (by decide +kernel), List.mem_of_getElem? (i := 1443) (by decide +kernel), List.mem_of_getElem? (i := 1444) (by decide +kernel)⟩
theorem lw_p63 : lw_okq (⟨"SightedMonthsModel", "number", "(II)I"⟩, 57) := ⟨⟨by decide +kernel, by decide +kernel⟩, List.mem_of_getElem? (i := 1195) (by decide +kernel), List.mem_of_getElem? (i := 1447) (by decide +kernel), List.mem_of_getElem? (i := 1448) (by decide +kernel)⟩
def lw_privs_4 : List (MethodName × Nat) := [(⟨"SightedMonths", "endByOfficial", "(II)I"⟩, 16), (⟨"SightedMonths", "leastLead", "(ILSightedMonths$Deed;LSightedMonths$Deed;)I"⟩, 16), (⟨"SightedMonthsModel", "movesAll", "(Z)V"⟩, 57), (⟨"SightedMonthsModel", "moves", "(I)I"⟩, 57), (⟨"SightedMonthsModel", "movesRow", "([I)V"⟩, 57), (⟨"SightedMonthsModel", "next", "()V"⟩, 57), (⟨"SightedMonthsModel", "isAt", "(II)Z"⟩, 57), (⟨"SightedMonthsModel", "readsLine", "()V"⟩, 57), (⟨"SightedMonthsModel", "readsHead", "()V"⟩, 57), (⟨"SightedMonthsModel", "word", "(Ljava/lang/String;)V"⟩, 57), (⟨"SightedMonthsModel", "isWord", "(Ljava/lang/String;)Z"⟩, 57), (⟨"SightedMonthsModel", "passes", "(Z)V"⟩, 57), (⟨"SightedMonthsModel", "faults", "(I)V"⟩, 57), (⟨"SightedMonthsModel", "faultsAt", "(II)V"⟩, 57), (⟨"SightedMonthsModel", "numberBehind", "(Ljava/lang/String;II)I"⟩, 57), (⟨"SightedMonthsModel", "number", "(II)I"⟩, 57)]
theorem lw_r4 : ∀ q ∈ lw_privs_4, lw_okq q := List.forall_mem_cons.mpr ⟨lw_p48, List.forall_mem_cons.mpr ⟨lw_p49, List.forall_mem_cons.mpr ⟨lw_p50, List.forall_mem_cons.mpr ⟨lw_p51, List.forall_mem_cons.mpr ⟨lw_p52, List.forall_mem_cons.mpr ⟨lw_p53, List.forall_mem_cons.mpr ⟨lw_p54, List.forall_mem_cons.mpr ⟨lw_p55, List.forall_mem_cons.mpr ⟨lw_p56, List.forall_mem_cons.mpr ⟨lw_p57, List.forall_mem_cons.mpr ⟨lw_p58, List.forall_mem_cons.mpr ⟨lw_p59, List.forall_mem_cons.mpr ⟨lw_p60, List.forall_mem_cons.mpr ⟨lw_p61, List.forall_mem_cons.mpr ⟨lw_p62, List.forall_mem_cons.mpr ⟨lw_p63, fun _ h => absurd h List.not_mem_nil⟩⟩⟩⟩⟩⟩⟩⟩⟩⟩⟩⟩⟩⟩⟩⟩
theorem lw_p64 : lw_okq (⟨"SightedMonthsModel", "readsMoon", "()V"⟩, 57) := ⟨⟨by decide +kernel, by decide +kernel⟩, List.mem_of_getElem? (i := 1195) (by decide +kernel), List.mem_of_getElem? (i := 1454) (by decide +kernel), List.mem_of_getElem? (i := 1455) (by decide +kernel)⟩
theorem lw_p65 : lw_okq (⟨"SightedMonthsModel", "readsPlace", "()V"⟩, 57) := ⟨⟨by decide +kernel, by decide +kernel⟩, List.mem_of_getElem? (i := 1195) (by decide +kernel), List.mem_of_getElem? (i := 1461) (by decide +kernel), List.mem_of_getElem? (i := 1462) (by decide +kernel)⟩
theorem lw_p66 : lw_okq (⟨"SightedMonthsModel", "named", "()I"⟩, 57) := ⟨⟨by decide +kernel, by decide +kernel⟩, List.mem_of_getElem? (i := 1195) (by decide +kernel), List.mem_of_getElem? (i := 1465) (by decide +kernel), List.mem_of_getElem? (i := 1466) (by decide +kernel)⟩
theorem lw_p67 : lw_okq (⟨"SightedMonthsModel", "readsReport", "(I)V"⟩, 57) := ⟨⟨by decide +kernel, by decide +kernel⟩, List.mem_of_getElem? (i := 1195) (by decide +kernel), List.mem_of_getElem? (i := 1473) (by decide +kernel), List.mem_of_getElem? (i := 1474) (by decide +kernel)⟩
theorem lw_p68 : lw_okq (⟨"SightedMonthsModel", "placeHere", "()I"⟩, 57) := ⟨⟨by decide +kernel, by decide +kernel⟩, List.mem_of_getElem? (i := 1195) (by decide +kernel), List.mem_of_getElem? (i := 1477) (by decide +kernel), List.mem_of_getElem? (i := 1478) (by decide +kernel)⟩
theorem lw_p69 : lw_okq (⟨"SightedMonthsModel", "lays", "(IIIII)V"⟩, 57) := ⟨⟨by decide +kernel, by decide +kernel⟩, List.mem_of_getElem? (i := 1195) (by decide +kernel), List.mem_of_getElem? (i := 1485) (by decide +kernel), List.mem_of_getElem? (i := 1486) (by decide +kernel)⟩
theorem lw_p70 : lw_okq (⟨"SightedMonthsModel", "readsDeed", "()V"⟩, 57) := ⟨⟨by decide +kernel, by decide +kernel⟩, List.mem_of_getElem? (i := 1195) (by decide +kernel), List.mem_of_getElem? (i := 1490) (by decide +kernel), List.mem_of_getElem? (i := 1491) (by decide +kernel)⟩
theorem lw_p71 : lw_okq (⟨"SightedMonthsModel", "isPlace", "(I)Z"⟩, 57) := ⟨⟨by decide +kernel, by decide +kernel⟩, List.mem_of_getElem? (i := 1195) (by decide +kernel), List.mem_of_getElem? (i := 1509) (by decide +kernel), List.mem_of_getElem? (i := 1510) (by decide +kernel)⟩
theorem lw_p72 : lw_okq (⟨"SightedMonthsModel", "isNameAhead", "(II)Z"⟩, 57) := ⟨⟨by decide +kernel, by decide +kernel⟩, List.mem_of_getElem? (i := 1195) (by decide +kernel), List.mem_of_getElem? (i := 1514) (by decide +kernel), List.mem_of_getElem? (i := 1515) (by decide +kernel)⟩
theorem lw_p73 : lw_okq (⟨"SightedMonthsModel", "isReport", "(I)Z"⟩, 57) := ⟨⟨by decide +kernel, by decide +kernel⟩, List.mem_of_getElem? (i := 1195) (by decide +kernel), List.mem_of_getElem? (i := 1522) (by decide +kernel), List.mem_of_getElem? (i := 1523) (by decide +kernel)⟩
theorem lw_p74 : lw_okq (⟨"SightedMonthsModel", "isDeed", "(I)Z"⟩, 57) := ⟨⟨by decide +kernel, by decide +kernel⟩, List.mem_of_getElem? (i := 1195) (by decide +kernel), List.mem_of_getElem? (i := 1530) (by decide +kernel), List.mem_of_getElem? (i := 1531) (by decide +kernel)⟩
theorem lw_p75 : lw_okq (⟨"SightedMonthsModel", "earlyOf", "(I)I"⟩, 57) := ⟨⟨by decide +kernel, by decide +kernel⟩, List.mem_of_getElem? (i := 1195) (by decide +kernel), List.mem_of_getElem? (i := 1538) (by decide +kernel), List.mem_of_getElem? (i := 1539) (by decide +kernel)⟩
theorem lw_p76 : lw_okq (⟨"SightedMonthsModel", "isTime", "(I)Z"⟩, 57) := ⟨⟨by decide +kernel, by decide +kernel⟩, List.mem_of_getElem? (i := 1195) (by decide +kernel), List.mem_of_getElem? (i := 1546) (by decide +kernel), List.mem_of_getElem? (i := 1547) (by decide +kernel)⟩
theorem lw_p77 : lw_okq (⟨"SightedMonthsModel", "judgesAll", "(I)V"⟩, 57) := ⟨⟨by decide +kernel, by decide +kernel⟩, List.mem_of_getElem? (i := 1195) (by decide +kernel), List.mem_of_getElem? (i := 1551) (by decide +kernel), List.mem_of_getElem? (i := 1552) (by decide +kernel)⟩
theorem lw_p78 : lw_okq (⟨"SightedMonthsModel", "frees", "()V"⟩, 57) := ⟨⟨by decide +kernel, by decide +kernel⟩, List.mem_of_getElem? (i := 1195) (by decide +kernel), List.mem_of_getElem? (i := 1555) (by decide +kernel), List.mem_of_getElem? (i := 1556) (by decide +kernel)⟩
theorem lw_p79 : lw_okq (⟨"SightedMonthsModel", "unpins", "()V"⟩, 57) := ⟨⟨by decide +kernel, by decide +kernel⟩, List.mem_of_getElem? (i := 1195) (by decide +kernel), List.mem_of_getElem? (i := 1559) (by decide +kernel), List.mem_of_getElem? (i := 1560) (by decide +kernel)⟩
def lw_privs_5 : List (MethodName × Nat) := [(⟨"SightedMonthsModel", "readsMoon", "()V"⟩, 57), (⟨"SightedMonthsModel", "readsPlace", "()V"⟩, 57), (⟨"SightedMonthsModel", "named", "()I"⟩, 57), (⟨"SightedMonthsModel", "readsReport", "(I)V"⟩, 57), (⟨"SightedMonthsModel", "placeHere", "()I"⟩, 57), (⟨"SightedMonthsModel", "lays", "(IIIII)V"⟩, 57), (⟨"SightedMonthsModel", "readsDeed", "()V"⟩, 57), (⟨"SightedMonthsModel", "isPlace", "(I)Z"⟩, 57), (⟨"SightedMonthsModel", "isNameAhead", "(II)Z"⟩, 57), (⟨"SightedMonthsModel", "isReport", "(I)Z"⟩, 57), (⟨"SightedMonthsModel", "isDeed", "(I)Z"⟩, 57), (⟨"SightedMonthsModel", "earlyOf", "(I)I"⟩, 57), (⟨"SightedMonthsModel", "isTime", "(I)Z"⟩, 57), (⟨"SightedMonthsModel", "judgesAll", "(I)V"⟩, 57), (⟨"SightedMonthsModel", "frees", "()V"⟩, 57), (⟨"SightedMonthsModel", "unpins", "()V"⟩, 57)]
theorem lw_r5 : ∀ q ∈ lw_privs_5, lw_okq q := List.forall_mem_cons.mpr ⟨lw_p64, List.forall_mem_cons.mpr ⟨lw_p65, List.forall_mem_cons.mpr ⟨lw_p66, List.forall_mem_cons.mpr ⟨lw_p67, List.forall_mem_cons.mpr ⟨lw_p68, List.forall_mem_cons.mpr ⟨lw_p69, List.forall_mem_cons.mpr ⟨lw_p70, List.forall_mem_cons.mpr ⟨lw_p71, List.forall_mem_cons.mpr ⟨lw_p72, List.forall_mem_cons.mpr ⟨lw_p73, List.forall_mem_cons.mpr ⟨lw_p74, List.forall_mem_cons.mpr ⟨lw_p75, List.forall_mem_cons.mpr ⟨lw_p76, List.forall_mem_cons.mpr ⟨lw_p77, List.forall_mem_cons.mpr ⟨lw_p78, List.forall_mem_cons.mpr ⟨lw_p79, fun _ h => absurd h List.not_mem_nil⟩⟩⟩⟩⟩⟩⟩⟩⟩⟩⟩⟩⟩⟩⟩⟩
theorem lw_p80 : lw_okq (⟨"SightedMonthsModel", "laysRow", "(I)V"⟩, 57) := ⟨⟨by decide +kernel, by decide +kernel⟩, List.mem_of_getElem? (i := 1195) (by decide +kernel), List.mem_of_getElem? (i := 1563) (by decide +kernel), List.mem_of_getElem? (i := 1564) (by decide +kernel)⟩
theorem lw_p81 : lw_okq (⟨"SightedMonthsModel", "isKnown", "(II)Z"⟩, 57) := ⟨⟨by decide +kernel, by decide +kernel⟩, List.mem_of_getElem? (i := 1195) (by decide +kernel), List.mem_of_getElem? (i := 1567) (by decide +kernel), List.mem_of_getElem? (i := 1568) (by decide +kernel)⟩
theorem lw_p82 : lw_okq (⟨"SightedMonthsModel", "isAhead", "(II)Z"⟩, 57) := ⟨⟨by decide +kernel, by decide +kernel⟩, List.mem_of_getElem? (i := 1195) (by decide +kernel), List.mem_of_getElem? (i := 1571) (by decide +kernel), List.mem_of_getElem? (i := 1572) (by decide +kernel)⟩
theorem lw_p83 : lw_okq (⟨"SightedMonthsModel", "trustOf", "(I)I"⟩, 57) := ⟨⟨by decide +kernel, by decide +kernel⟩, List.mem_of_getElem? (i := 1195) (by decide +kernel), List.mem_of_getElem? (i := 1575) (by decide +kernel), List.mem_of_getElem? (i := 1576) (by decide +kernel)⟩
theorem lw_p84 : lw_okq (⟨"SightedMonthsModel", "judges", "(I)I"⟩, 57) := ⟨⟨by decide +kernel, by decide +kernel⟩, List.mem_of_getElem? (i := 1195) (by decide +kernel), List.mem_of_getElem? (i := 1579) (by decide +kernel), List.mem_of_getElem? (i := 1580) (by decide +kernel)⟩
theorem lw_p85 : lw_okq (⟨"SightedMonthsModel", "holds", "(I)V"⟩, 57) := ⟨⟨by decide +kernel, by decide +kernel⟩, List.mem_of_getElem? (i := 1195) (by decide +kernel), List.mem_of_getElem? (i := 1583) (by decide +kernel), List.mem_of_getElem? (i := 1584) (by decide +kernel)⟩
theorem lw_p86 : lw_okq (⟨"SightedMonthsModel", "counts", "()I"⟩, 57) := ⟨⟨by decide +kernel, by decide +kernel⟩, List.mem_of_getElem? (i := 1195) (by decide +kernel), List.mem_of_getElem? (i := 1587) (by decide +kernel), List.mem_of_getElem? (i := 1588) (by decide +kernel)⟩
theorem lw_p87 : lw_okq (⟨"SightedMonthsModel", "isOpen", "(II)Z"⟩, 57) := ⟨⟨by decide +kernel, by decide +kernel⟩, List.mem_of_getElem? (i := 1195) (by decide +kernel), List.mem_of_getElem? (i := 1591) (by decide +kernel), List.mem_of_getElem? (i := 1592) (by decide +kernel)⟩
theorem lw_p88 : lw_okq (⟨"SightedMonthsModel", "waysBy", "(IIII)I"⟩, 57) := ⟨⟨by decide +kernel, by decide +kernel⟩, List.mem_of_getElem? (i := 1195) (by decide +kernel), List.mem_of_getElem? (i := 1595) (by decide +kernel), List.mem_of_getElem? (i := 1596) (by decide +kernel)⟩
theorem lw_p89 : lw_okq (⟨"SightedMonthsModel", "runBehind", "(II)I"⟩, 57) := ⟨⟨by decide +kernel, by decide +kernel⟩, List.mem_of_getElem? (i := 1195) (by decide +kernel), List.mem_of_getElem? (i := 1599) (by decide +kernel), List.mem_of_getElem? (i := 1600) (by decide +kernel)⟩
theorem lw_p90 : lw_okq (⟨"SightedMonthsModel", "takenBits", "()I"⟩, 57) := ⟨⟨by decide +kernel, by decide +kernel⟩, List.mem_of_getElem? (i := 1195) (by decide +kernel), List.mem_of_getElem? (i := 1610) (by decide +kernel), List.mem_of_getElem? (i := 1611) (by decide +kernel)⟩
theorem lw_p91 : lw_okq (⟨"SightedMonthsModel", "areBoth", "(II)Z"⟩, 57) := ⟨⟨by decide +kernel, by decide +kernel⟩, List.mem_of_getElem? (i := 1195) (by decide +kernel), List.mem_of_getElem? (i := 1623) (by decide +kernel), List.mem_of_getElem? (i := 1624) (by decide +kernel)⟩
theorem lw_p92 : lw_okq (⟨"SightedMonthsModel", "isBegin", "(I)Z"⟩, 57) := ⟨⟨by decide +kernel, by decide +kernel⟩, List.mem_of_getElem? (i := 1195) (by decide +kernel), List.mem_of_getElem? (i := 1647) (by decide +kernel), List.mem_of_getElem? (i := 1648) (by decide +kernel)⟩
theorem lw_p93 : lw_okq (⟨"SightedMonthsModel", "officialBy", "(I)V"⟩, 57) := ⟨⟨by decide +kernel, by decide +kernel⟩, List.mem_of_getElem? (i := 1195) (by decide +kernel), List.mem_of_getElem? (i := 1651) (by decide +kernel), List.mem_of_getElem? (i := 1652) (by decide +kernel)⟩
theorem lw_p94 : lw_okq (⟨"SightedMonthsModel", "laysOfficial", "()V"⟩, 57) := ⟨⟨by decide +kernel, by decide +kernel⟩, List.mem_of_getElem? (i := 1195) (by decide +kernel), List.mem_of_getElem? (i := 1655) (by decide +kernel), List.mem_of_getElem? (i := 1656) (by decide +kernel)⟩
theorem lw_p95 : lw_okq (⟨"SightedMonthsModel", "spanOf", "(II)I"⟩, 57) := ⟨⟨by decide +kernel, by decide +kernel⟩, List.mem_of_getElem? (i := 1195) (by decide +kernel), List.mem_of_getElem? (i := 1663) (by decide +kernel), List.mem_of_getElem? (i := 1664) (by decide +kernel)⟩
def lw_privs_6 : List (MethodName × Nat) := [(⟨"SightedMonthsModel", "laysRow", "(I)V"⟩, 57), (⟨"SightedMonthsModel", "isKnown", "(II)Z"⟩, 57), (⟨"SightedMonthsModel", "isAhead", "(II)Z"⟩, 57), (⟨"SightedMonthsModel", "trustOf", "(I)I"⟩, 57), (⟨"SightedMonthsModel", "judges", "(I)I"⟩, 57), (⟨"SightedMonthsModel", "holds", "(I)V"⟩, 57), (⟨"SightedMonthsModel", "counts", "()I"⟩, 57), (⟨"SightedMonthsModel", "isOpen", "(II)Z"⟩, 57), (⟨"SightedMonthsModel", "waysBy", "(IIII)I"⟩, 57), (⟨"SightedMonthsModel", "runBehind", "(II)I"⟩, 57), (⟨"SightedMonthsModel", "takenBits", "()I"⟩, 57), (⟨"SightedMonthsModel", "areBoth", "(II)Z"⟩, 57), (⟨"SightedMonthsModel", "isBegin", "(I)Z"⟩, 57), (⟨"SightedMonthsModel", "officialBy", "(I)V"⟩, 57), (⟨"SightedMonthsModel", "laysOfficial", "()V"⟩, 57), (⟨"SightedMonthsModel", "spanOf", "(II)I"⟩, 57)]
theorem lw_r6 : ∀ q ∈ lw_privs_6, lw_okq q := List.forall_mem_cons.mpr ⟨lw_p80, List.forall_mem_cons.mpr ⟨lw_p81, List.forall_mem_cons.mpr ⟨lw_p82, List.forall_mem_cons.mpr ⟨lw_p83, List.forall_mem_cons.mpr ⟨lw_p84, List.forall_mem_cons.mpr ⟨lw_p85, List.forall_mem_cons.mpr ⟨lw_p86, List.forall_mem_cons.mpr ⟨lw_p87, List.forall_mem_cons.mpr ⟨lw_p88, List.forall_mem_cons.mpr ⟨lw_p89, List.forall_mem_cons.mpr ⟨lw_p90, List.forall_mem_cons.mpr ⟨lw_p91, List.forall_mem_cons.mpr ⟨lw_p92, List.forall_mem_cons.mpr ⟨lw_p93, List.forall_mem_cons.mpr ⟨lw_p94, List.forall_mem_cons.mpr ⟨lw_p95, fun _ h => absurd h List.not_mem_nil⟩⟩⟩⟩⟩⟩⟩⟩⟩⟩⟩⟩⟩⟩⟩⟩
theorem lw_p96 : lw_okq (⟨"SightedMonthsModel", "beginsOn", "(II)I"⟩, 57) := ⟨⟨by decide +kernel, by decide +kernel⟩, List.mem_of_getElem? (i := 1195) (by decide +kernel), List.mem_of_getElem? (i := 1667) (by decide +kernel), List.mem_of_getElem? (i := 1668) (by decide +kernel)⟩
theorem lw_p97 : lw_okq (⟨"SightedMonthsModel", "countsWith", "(IIII)I"⟩, 57) := ⟨⟨by decide +kernel, by decide +kernel⟩, List.mem_of_getElem? (i := 1195) (by decide +kernel), List.mem_of_getElem? (i := 1671) (by decide +kernel), List.mem_of_getElem? (i := 1672) (by decide +kernel)⟩
theorem lw_p98 : lw_okq (⟨"SightedMonthsModel", "isMonth", "(I)Z"⟩, 57) := ⟨⟨by decide +kernel, by decide +kernel⟩, List.mem_of_getElem? (i := 1195) (by decide +kernel), List.mem_of_getElem? (i := 1683) (by decide +kernel), List.mem_of_getElem? (i := 1684) (by decide +kernel)⟩
theorem lw_p99 : lw_okq (⟨"SightedMonthsModel", "laysRanked", "(I)V"⟩, 57) := ⟨⟨by decide +kernel, by decide +kernel⟩, List.mem_of_getElem? (i := 1195) (by decide +kernel), List.mem_of_getElem? (i := 1699) (by decide +kernel), List.mem_of_getElem? (i := 1700) (by decide +kernel)⟩
theorem lw_p100 : lw_okq (⟨"SightedMonthsModel", "dayBy", "(II)I"⟩, 57) := ⟨⟨by decide +kernel, by decide +kernel⟩, List.mem_of_getElem? (i := 1195) (by decide +kernel), List.mem_of_getElem? (i := 1720) (by decide +kernel), List.mem_of_getElem? (i := 1721) (by decide +kernel)⟩
theorem lw_p101 : lw_okq (⟨"SightedMonthsModel", "lengthBy", "(I)I"⟩, 57) := ⟨⟨by decide +kernel, by decide +kernel⟩, List.mem_of_getElem? (i := 1195) (by decide +kernel), List.mem_of_getElem? (i := 1724) (by decide +kernel), List.mem_of_getElem? (i := 1725) (by decide +kernel)⟩
theorem lw_p102 : lw_okq (⟨"SightedMonthsModel", "datesWith", "(III)I"⟩, 57) := ⟨⟨by decide +kernel, by decide +kernel⟩, List.mem_of_getElem? (i := 1195) (by decide +kernel), List.mem_of_getElem? (i := 1736) (by decide +kernel), List.mem_of_getElem? (i := 1737) (by decide +kernel)⟩
theorem lw_p103 : lw_okq (⟨"SightedMonthsModel", "fallsOn", "(III)I"⟩, 57) := ⟨⟨by decide +kernel, by decide +kernel⟩, List.mem_of_getElem? (i := 1195) (by decide +kernel), List.mem_of_getElem? (i := 1749) (by decide +kernel), List.mem_of_getElem? (i := 1750) (by decide +kernel)⟩
theorem lw_p104 : lw_okq (⟨"SightedMonthsModel", "follows", "(II)V"⟩, 57) := ⟨⟨by decide +kernel, by decide +kernel⟩, List.mem_of_getElem? (i := 1195) (by decide +kernel), List.mem_of_getElem? (i := 1761) (by decide +kernel), List.mem_of_getElem? (i := 1762) (by decide +kernel)⟩
theorem lw_p105 : lw_okq (⟨"SightedMonthsModel", "dueBy", "(I)I"⟩, 57) := ⟨⟨by decide +kernel, by decide +kernel⟩, List.mem_of_getElem? (i := 1195) (by decide +kernel), List.mem_of_getElem? (i := 1765) (by decide +kernel), List.mem_of_getElem? (i := 1766) (by decide +kernel)⟩
theorem lw_p106 : lw_okq (⟨"SightedMonthsModel", "monthOf", "(I)I"⟩, 57) := ⟨⟨by decide +kernel, by decide +kernel⟩, List.mem_of_getElem? (i := 1195) (by decide +kernel), List.mem_of_getElem? (i := 1769) (by decide +kernel), List.mem_of_getElem? (i := 1770) (by decide +kernel)⟩
theorem lw_p107 : lw_okq (⟨"SightedMonthsModel", "behindOf", "(I)I"⟩, 57) := ⟨⟨by decide +kernel, by decide +kernel⟩, List.mem_of_getElem? (i := 1195) (by decide +kernel), List.mem_of_getElem? (i := 1773) (by decide +kernel), List.mem_of_getElem? (i := 1774) (by decide +kernel)⟩
theorem lw_p108 : lw_okq (⟨"SightedMonthsModel", "nextTime", "(I)I"⟩, 57) := ⟨⟨by decide +kernel, by decide +kernel⟩, List.mem_of_getElem? (i := 1195) (by decide +kernel), List.mem_of_getElem? (i := 1777) (by decide +kernel), List.mem_of_getElem? (i := 1778) (by decide +kernel)⟩
theorem lw_p109 : lw_okq (⟨"SightedMonthsModel", "dueSpanOf", "(II)I"⟩, 57) := ⟨⟨by decide +kernel, by decide +kernel⟩, List.mem_of_getElem? (i := 1195) (by decide +kernel), List.mem_of_getElem? (i := 1793) (by decide +kernel), List.mem_of_getElem? (i := 1794) (by decide +kernel)⟩
theorem lw_p110 : lw_okq (⟨"SightedMonthsModel", "duesOn", "(II)I"⟩, 57) := ⟨⟨by decide +kernel, by decide +kernel⟩, List.mem_of_getElem? (i := 1195) (by decide +kernel), List.mem_of_getElem? (i := 1797) (by decide +kernel), List.mem_of_getElem? (i := 1798) (by decide +kernel)⟩
theorem lw_p111 : lw_okq (⟨"SightedMonthsModel", "compares", "(II)V"⟩, 57) := ⟨⟨by decide +kernel, by decide +kernel⟩, List.mem_of_getElem? (i := 1195) (by decide +kernel), List.mem_of_getElem? (i := 1817) (by decide +kernel), List.mem_of_getElem? (i := 1818) (by decide +kernel)⟩
def lw_privs_7 : List (MethodName × Nat) := [(⟨"SightedMonthsModel", "beginsOn", "(II)I"⟩, 57), (⟨"SightedMonthsModel", "countsWith", "(IIII)I"⟩, 57), (⟨"SightedMonthsModel", "isMonth", "(I)Z"⟩, 57), (⟨"SightedMonthsModel", "laysRanked", "(I)V"⟩, 57), (⟨"SightedMonthsModel", "dayBy", "(II)I"⟩, 57), (⟨"SightedMonthsModel", "lengthBy", "(I)I"⟩, 57), (⟨"SightedMonthsModel", "datesWith", "(III)I"⟩, 57), (⟨"SightedMonthsModel", "fallsOn", "(III)I"⟩, 57), (⟨"SightedMonthsModel", "follows", "(II)V"⟩, 57), (⟨"SightedMonthsModel", "dueBy", "(I)I"⟩, 57), (⟨"SightedMonthsModel", "monthOf", "(I)I"⟩, 57), (⟨"SightedMonthsModel", "behindOf", "(I)I"⟩, 57), (⟨"SightedMonthsModel", "nextTime", "(I)I"⟩, 57), (⟨"SightedMonthsModel", "dueSpanOf", "(II)I"⟩, 57), (⟨"SightedMonthsModel", "duesOn", "(II)I"⟩, 57), (⟨"SightedMonthsModel", "compares", "(II)V"⟩, 57)]
theorem lw_r7 : ∀ q ∈ lw_privs_7, lw_okq q := List.forall_mem_cons.mpr ⟨lw_p96, List.forall_mem_cons.mpr ⟨lw_p97, List.forall_mem_cons.mpr ⟨lw_p98, List.forall_mem_cons.mpr ⟨lw_p99, List.forall_mem_cons.mpr ⟨lw_p100, List.forall_mem_cons.mpr ⟨lw_p101, List.forall_mem_cons.mpr ⟨lw_p102, List.forall_mem_cons.mpr ⟨lw_p103, List.forall_mem_cons.mpr ⟨lw_p104, List.forall_mem_cons.mpr ⟨lw_p105, List.forall_mem_cons.mpr ⟨lw_p106, List.forall_mem_cons.mpr ⟨lw_p107, List.forall_mem_cons.mpr ⟨lw_p108, List.forall_mem_cons.mpr ⟨lw_p109, List.forall_mem_cons.mpr ⟨lw_p110, List.forall_mem_cons.mpr ⟨lw_p111, fun _ h => absurd h List.not_mem_nil⟩⟩⟩⟩⟩⟩⟩⟩⟩⟩⟩⟩⟩⟩⟩⟩
theorem lw_p112 : lw_okq (⟨"SightedMonthsModel", "ownBy", "(II)V"⟩, 57) := ⟨⟨by decide +kernel, by decide +kernel⟩, List.mem_of_getElem? (i := 1195) (by decide +kernel), List.mem_of_getElem? (i := 1825) (by decide +kernel), List.mem_of_getElem? (i := 1826) (by decide +kernel)⟩
theorem lw_p113 : lw_okq (⟨"SightedMonthsModel", "keepsOfficial", "()V"⟩, 57) := ⟨⟨by decide +kernel, by decide +kernel⟩, List.mem_of_getElem? (i := 1195) (by decide +kernel), List.mem_of_getElem? (i := 1833) (by decide +kernel), List.mem_of_getElem? (i := 1834) (by decide +kernel)⟩
theorem lw_p114 : lw_okq (⟨"SightedMonthsModel", "unlike", "()I"⟩, 57) := ⟨⟨by decide +kernel, by decide +kernel⟩, List.mem_of_getElem? (i := 1195) (by decide +kernel), List.mem_of_getElem? (i := 1837) (by decide +kernel), List.mem_of_getElem? (i := 1838) (by decide +kernel)⟩
theorem lw_p115 : lw_okq (⟨"SightedMonthsModel", "laysWorth", "(IZ)I"⟩, 57) := ⟨⟨by decide +kernel, by decide +kernel⟩, List.mem_of_getElem? (i := 1195) (by decide +kernel), List.mem_of_getElem? (i := 1857) (by decide +kernel), List.mem_of_getElem? (i := 1858) (by decide +kernel)⟩
theorem lw_p116 : lw_okq (⟨"SightedMonthsModel", "costOf", "(IIIZ)I"⟩, 57) := ⟨⟨by decide +kernel, by decide +kernel⟩, List.mem_of_getElem? (i := 1195) (by decide +kernel), List.mem_of_getElem? (i := 1861) (by decide +kernel), List.mem_of_getElem? (i := 1862) (by decide +kernel)⟩
theorem lw_p117 : lw_okq (⟨"SightedMonthsModel", "worthBy", "(IIII)I"⟩, 57) := ⟨⟨by decide +kernel, by decide +kernel⟩, List.mem_of_getElem? (i := 1195) (by decide +kernel), List.mem_of_getElem? (i := 1867) (by decide +kernel), List.mem_of_getElem? (i := 1868) (by decide +kernel)⟩
def lw_privs_8 : List (MethodName × Nat) := [(⟨"SightedMonthsModel", "ownBy", "(II)V"⟩, 57), (⟨"SightedMonthsModel", "keepsOfficial", "()V"⟩, 57), (⟨"SightedMonthsModel", "unlike", "()I"⟩, 57), (⟨"SightedMonthsModel", "laysWorth", "(IZ)I"⟩, 57), (⟨"SightedMonthsModel", "costOf", "(IIIZ)I"⟩, 57), (⟨"SightedMonthsModel", "worthBy", "(IIII)I"⟩, 57)]
theorem lw_r8 : ∀ q ∈ lw_privs_8, lw_okq q := List.forall_mem_cons.mpr ⟨lw_p112, List.forall_mem_cons.mpr ⟨lw_p113, List.forall_mem_cons.mpr ⟨lw_p114, List.forall_mem_cons.mpr ⟨lw_p115, List.forall_mem_cons.mpr ⟨lw_p116, List.forall_mem_cons.mpr ⟨lw_p117, fun _ h => absurd h List.not_mem_nil⟩⟩⟩⟩⟩⟩
def lw_privs : List (MethodName × Nat) := lw_privs_1 ++ (lw_privs_2 ++ (lw_privs_3 ++ (lw_privs_4 ++ (lw_privs_5 ++ (lw_privs_6 ++ (lw_privs_7 ++ (lw_privs_8)))))))
def lw_tbl : List Cond := k2_sels lw_privs ++ tables_1
theorem lw_privs_ok : ∀ q ∈ lw_privs, lw_okq q := by
  show ∀ q ∈ lw_privs_1 ++ (lw_privs_2 ++ (lw_privs_3 ++ (lw_privs_4 ++ (lw_privs_5 ++ (lw_privs_6 ++ (lw_privs_7 ++ (lw_privs_8))))))), lw_okq q
  exact List.forall_mem_append.mpr ⟨lw_r1, List.forall_mem_append.mpr ⟨lw_r2, List.forall_mem_append.mpr ⟨lw_r3, List.forall_mem_append.mpr ⟨lw_r4, List.forall_mem_append.mpr ⟨lw_r5, List.forall_mem_append.mpr ⟨lw_r6, List.forall_mem_append.mpr ⟨lw_r7, lw_r8⟩⟩⟩⟩⟩⟩⟩
end
section
def RX0 : String := "SightedMonths$Almanac"
def TX0 : u_T := fun k => match k with
  | 0 => ("SightedMonths$Almanac", "months", "I", false)
  | 1 => ("SightedMonths$Almanac", "full", "I", false)
  | 2 => ("SightedMonths$Almanac", "lean", "I", false)
  | 3 => ("SightedMonths$Almanac", "lines", "I", false)
  | 4 => ("SightedMonths$Almanac", "hasMoon", "Z", false)
  | 5 => ("SightedMonths$Almanac", "moonStart", "I", false)
  | 6 => ("SightedMonths$Almanac", "moonStep", "I", false)
  | 7 => ("SightedMonths$Almanac", "placeCount", "I", false)
  | 8 => ("SightedMonths$Almanac", "reportCount", "I", false)
  | 9 => ("SightedMonths$Almanac", "deedCount", "I", false)
  | 10 => ("SightedMonths$Almanac", "places", "[LSightedMonths$Place;", true)
  | 11 => ("SightedMonths$Almanac", "reports", "[LSightedMonths$Report;", true)
  | _ => ("SightedMonths$Almanac", "deeds", "[LSightedMonths$Deed;", true)
def tyX0 : Nat → FieldType := fun k => match k with
  | 0 => .int
  | 1 => .int
  | 2 => .int
  | 3 => .int
  | 4 => .boolean
  | 5 => .int
  | 6 => .int
  | 7 => .int
  | 8 => .int
  | 9 => .int
  | 10 => .array (.object "SightedMonths$Place")
  | 11 => .array (.object "SightedMonths$Report")
  | _ => .array (.object "SightedMonths$Deed")
abbrev wsX00 : List Cond := u_ws RX0 TX0 13
theorem nmX0 : ∀ a, a < 13 → ∀ b, b < 13 → a ≠ b → (TX0 a).2.1 ≠ (TX0 b).2.1 := by decide +kernel
theorem tyX0_ok : ∀ k, k < 13 → parseFieldDescriptor (TX0 k).2.2.1 = some (tyX0 k) := by decide +kernel
abbrev cX0_init : ByteArray := prog_2_method_1_code
def yX0_init : MethodName := ⟨RX0, "<init>", "()V"⟩
abbrev cX0_wipe : ByteArray := prog_2_method_2_code
def yX0_wipe : MethodName := ⟨RX0, "wipe", "()V"⟩
abbrev cX0_copyFrom : ByteArray := prog_2_method_3_code
def yX0_copyFrom : MethodName := ⟨RX0, "copyFrom", "(LSightedMonths$Almanac;)V"⟩
abbrev cX0_setMoon : ByteArray := prog_2_method_4_code
def yX0_setMoon : MethodName := ⟨RX0, "setMoon", "(II)V"⟩
abbrev cX0_addPlace : ByteArray := prog_2_method_5_code
def yX0_addPlace : MethodName := ⟨RX0, "addPlace", "(II)V"⟩
abbrev cX0_addReport : ByteArray := prog_2_method_6_code
def yX0_addReport : MethodName := ⟨RX0, "addReport", "(IIIII)V"⟩
abbrev cX0_addDeed : ByteArray := prog_2_method_7_code
def yX0_addDeed : MethodName := ⟨RX0, "addDeed", "(IIIZ)V"⟩
abbrev cX0_placeNamed : ByteArray := prog_2_method_8_code
def yX0_placeNamed : MethodName := ⟨RX0, "placeNamed", "(I)I"⟩
abbrev cX0_namesAhead : ByteArray := prog_2_method_9_code
def yX0_namesAhead : MethodName := ⟨RX0, "namesAhead", "(I)I"⟩
abbrev cX0_standing : ByteArray := prog_2_method_10_code
def yX0_standing : MethodName := ⟨RX0, "standing", "()I"⟩
abbrev cX0_standingOf : ByteArray := prog_2_method_11_code
def yX0_standingOf : MethodName := ⟨RX0, "standingOf", "(I)I"⟩
abbrev cX0_strikeAllBut : ByteArray := prog_2_method_12_code
def yX0_strikeAllBut : MethodName := ⟨RX0, "strikeAllBut", "(I)V"⟩
abbrev cX0_earlyOf : ByteArray := prog_2_method_13_code
def yX0_earlyOf : MethodName := ⟨RX0, "earlyOf", "(I)I"⟩
abbrev cX0_knownBits : ByteArray := prog_2_method_14_code
def yX0_knownBits : MethodName := ⟨RX0, "knownBits", "(I)I"⟩
abbrev cX0_latestNews : ByteArray := prog_2_method_15_code
def yX0_latestNews : MethodName := ⟨RX0, "latestNews", "(I)I"⟩
abbrev cX0_newsBehind : ByteArray := prog_2_method_16_code
def yX0_newsBehind : MethodName := ⟨RX0, "newsBehind", "(I)I"⟩
def RX1 : String := "SightedMonths$Court"
def TX1 : u_T := fun k => match k with
  | 0 => ("SightedMonths$Court", "frame", "LSightedMonths$Frame;", true)
  | 1 => ("SightedMonths$Court", "verdicts", "[I", true)
  | 2 => ("SightedMonths$Court", "queue", "[I", true)
  | 3 => ("SightedMonths$Court", "turns", "[J", true)
  | 4 => ("SightedMonths$Court", "begins", "[I", true)
  | 5 => ("SightedMonths$Court", "queueLength", "I", false)
  | _ => ("SightedMonths$Court", "takenBits", "I", false)
def tyX1 : Nat → FieldType := fun k => match k with
  | 0 => .object "SightedMonths$Frame"
  | 1 => .array .int
  | 2 => .array .int
  | 3 => .array .long
  | 4 => .array .int
  | 5 => .int
  | _ => .int
abbrev wsX10 : List Cond := u_ws RX1 TX1 7
theorem nmX1 : ∀ a, a < 7 → ∀ b, b < 7 → a ≠ b → (TX1 a).2.1 ≠ (TX1 b).2.1 := by decide +kernel
theorem tyX1_ok : ∀ k, k < 7 → parseFieldDescriptor (TX1 k).2.2.1 = some (tyX1 k) := by decide +kernel
abbrev cX1_init : ByteArray := prog_3_method_1_code
def yX1_init : MethodName := ⟨RX1, "<init>", "()V"⟩
abbrev cX1_judge : ByteArray := prog_3_method_2_code
def yX1_judge : MethodName := ⟨RX1, "judge", "(LSightedMonths$Almanac;I)V"⟩
abbrev cX1_lineUp : ByteArray := prog_3_method_3_code
def yX1_lineUp : MethodName := ⟨RX1, "lineUp", "(LSightedMonths$Almanac;I)V"⟩
abbrev cX1_insert : ByteArray := prog_3_method_4_code
def yX1_insert : MethodName := ⟨RX1, "insert", "(IJ)V"⟩
abbrev cX1_turnOf : ByteArray := prog_3_method_5_code
def yX1_turnOf : MethodName := ⟨RX1, "turnOf", "(LSightedMonths$Almanac;I)J"⟩
abbrev cX1_verdictOn : ByteArray := prog_3_method_6_code
def yX1_verdictOn : MethodName := ⟨RX1, "verdictOn", "(LSightedMonths$Almanac;LSightedMonths$Report;)I"⟩
abbrev cX1_lengthOf : ByteArray := prog_3_method_7_code
def yX1_lengthOf : MethodName := ⟨RX1, "lengthOf", "(I)I"⟩
def RX2 : String := "SightedMonths$Deed"
def TX2 : u_T := fun k => match k with
  | 0 => ("SightedMonths$Deed", "month", "I", false)
  | 1 => ("SightedMonths$Deed", "day", "I", false)
  | 2 => ("SightedMonths$Deed", "length", "I", false)
  | _ => ("SightedMonths$Deed", "inDays", "Z", false)
def tyX2 : Nat → FieldType := fun k => match k with
  | 0 => .int
  | 1 => .int
  | 2 => .int
  | _ => .boolean
abbrev wsX20 : List Cond := u_ws RX2 TX2 4
theorem nmX2 : ∀ a, a < 4 → ∀ b, b < 4 → a ≠ b → (TX2 a).2.1 ≠ (TX2 b).2.1 := by decide +kernel
theorem tyX2_ok : ∀ k, k < 4 → parseFieldDescriptor (TX2 k).2.2.1 = some (tyX2 k) := by decide +kernel
abbrev cX2_init : ByteArray := prog_4_method_1_code
def yX2_init : MethodName := ⟨RX2, "<init>", "()V"⟩
abbrev cX2_endAnchor : ByteArray := prog_4_method_2_code
def yX2_endAnchor : MethodName := ⟨RX2, "endAnchor", "()I"⟩
abbrev cX2_endOffset : ByteArray := prog_4_method_3_code
def yX2_endOffset : MethodName := ⟨RX2, "endOffset", "()I"⟩
def RX3 : String := "SightedMonths$Frame"
def TX3 : u_T := fun k => match k with
  | 0 => ("SightedMonths$Frame", "months", "I", false)
  | 1 => ("SightedMonths$Frame", "full", "I", false)
  | 2 => ("SightedMonths$Frame", "lean", "I", false)
  | 3 => ("SightedMonths$Frame", "allowed", "[I", true)
  | _ => ("SightedMonths$Frame", "onward", "[I", true)
def tyX3 : Nat → FieldType := fun k => match k with
  | 0 => .int
  | 1 => .int
  | 2 => .int
  | 3 => .array .int
  | _ => .array .int
abbrev wsX30 : List Cond := u_ws RX3 TX3 5
theorem nmX3 : ∀ a, a < 5 → ∀ b, b < 5 → a ≠ b → (TX3 a).2.1 ≠ (TX3 b).2.1 := by decide +kernel
theorem tyX3_ok : ∀ k, k < 5 → parseFieldDescriptor (TX3 k).2.2.1 = some (tyX3 k) := by decide +kernel
abbrev cX3_init : ByteArray := prog_5_method_1_code
def yX3_init : MethodName := ⟨RX3, "<init>", "()V"⟩
abbrev cX3_open : ByteArray := prog_5_method_2_code
def yX3_open : MethodName := ⟨RX3, "open", "(LSightedMonths$Almanac;)V"⟩
abbrev cX3_rightFor : ByteArray := prog_5_method_3_code
def yX3_rightFor : MethodName := ⟨RX3, "rightFor", "(LSightedMonths$Report;)I"⟩
abbrev cX3_narrow : ByteArray := prog_5_method_4_code
def yX3_narrow : MethodName := ⟨RX3, "narrow", "(LSightedMonths$Report;)V"⟩
abbrev cX3_allows : ByteArray := prog_5_method_5_code
def yX3_allows : MethodName := ⟨RX3, "allows", "(II)Z"⟩
abbrev cX3_fits : ByteArray := prog_5_method_6_code
def yX3_fits : MethodName := ⟨RX3, "fits", "()Z"⟩
abbrev cX3_beginsInto : ByteArray := prog_5_method_7_code
def yX3_beginsInto : MethodName := ⟨RX3, "beginsInto", "([I)V"⟩
def RX4 : String := "SightedMonths$History"
def TX4 : u_T := fun k => match k with
  | 0 => ("SightedMonths$History", "since", "[I", true)
  | 1 => ("SightedMonths$History", "begins", "[I", true)
  | _ => ("SightedMonths$History", "eras", "I", false)
def tyX4 : Nat → FieldType := fun k => match k with
  | 0 => .array .int
  | 1 => .array .int
  | _ => .int
abbrev wsX40 : List Cond := u_ws RX4 TX4 3
theorem nmX4 : ∀ a, a < 3 → ∀ b, b < 3 → a ≠ b → (TX4 a).2.1 ≠ (TX4 b).2.1 := by decide +kernel
theorem tyX4_ok : ∀ k, k < 3 → parseFieldDescriptor (TX4 k).2.2.1 = some (tyX4 k) := by decide +kernel
abbrev cX4_init : ByteArray := prog_6_method_1_code
def yX4_init : MethodName := ⟨RX4, "<init>", "()V"⟩
abbrev cX4_fill : ByteArray := prog_6_method_2_code
def yX4_fill : MethodName := ⟨RX4, "fill", "(LSightedMonths$Almanac;LSightedMonths$Court;)V"⟩
abbrev cX4_changesAt : ByteArray := prog_6_method_3_code
def yX4_changesAt : MethodName := ⟨RX4, "changesAt", "(II)Z"⟩
abbrev cX4_changesOf : ByteArray := prog_6_method_4_code
def yX4_changesOf : MethodName := ⟨RX4, "changesOf", "(I)I"⟩
abbrev cX4_lastChangeOf : ByteArray := prog_6_method_5_code
def yX4_lastChangeOf : MethodName := ⟨RX4, "lastChangeOf", "(I)I"⟩
def RX5 : String := "SightedMonths$Place"
def TX5 : u_T := fun k => match k with
  | 0 => ("SightedMonths$Place", "name", "I", false)
  | _ => ("SightedMonths$Place", "trust", "I", false)
def tyX5 : Nat → FieldType := fun k => match k with
  | 0 => .int
  | _ => .int
abbrev wsX50 : List Cond := u_ws RX5 TX5 2
theorem nmX5 : ∀ a, a < 2 → ∀ b, b < 2 → a ≠ b → (TX5 a).2.1 ≠ (TX5 b).2.1 := by decide +kernel
theorem tyX5_ok : ∀ k, k < 2 → parseFieldDescriptor (TX5 k).2.2.1 = some (tyX5 k) := by decide +kernel
abbrev cX5_init : ByteArray := prog_7_method_1_code
def yX5_init : MethodName := ⟨RX5, "<init>", "()V"⟩
def RX6 : String := "SightedMonths$Reader"
def TX6 : u_T := fun k => match k with
  | 0 => ("SightedMonths$Reader", "tape", "LSightedMonths$Tape;", true)
  | 1 => ("SightedMonths$Reader", "draft", "LSightedMonths$Almanac;", false)
  | 2 => ("SightedMonths$Reader", "faultKind", "I", false)
  | 3 => ("SightedMonths$Reader", "faultPlace", "I", false)
  | 4 => ("SightedMonths$Reader", "token", "I", false)
  | 5 => ("SightedMonths$Reader", "start", "I", false)
  | _ => ("SightedMonths$Reader", "stop", "I", false)
def tyX6 : Nat → FieldType := fun k => match k with
  | 0 => .object "SightedMonths$Tape"
  | 1 => .object "SightedMonths$Almanac"
  | 2 => .int
  | 3 => .int
  | 4 => .int
  | 5 => .int
  | _ => .int
abbrev wsX60 : List Cond := u_ws RX6 TX6 7
theorem nmX6 : ∀ a, a < 7 → ∀ b, b < 7 → a ≠ b → (TX6 a).2.1 ≠ (TX6 b).2.1 := by decide +kernel
theorem tyX6_ok : ∀ k, k < 7 → parseFieldDescriptor (TX6 k).2.2.1 = some (tyX6 k) := by decide +kernel
abbrev cX6_init : ByteArray := prog_8_method_1_code
def yX6_init : MethodName := ⟨RX6, "<init>", "()V"⟩
abbrev cX6_read : ByteArray := prog_8_method_2_code
def yX6_read : MethodName := ⟨RX6, "read", "()V"⟩
abbrev cX6_readLine : ByteArray := prog_8_method_3_code
def yX6_readLine : MethodName := ⟨RX6, "readLine", "()V"⟩
abbrev cX6_readFirst : ByteArray := prog_8_method_4_code
def yX6_readFirst : MethodName := ⟨RX6, "readFirst", "()V"⟩
abbrev cX6_readMoon : ByteArray := prog_8_method_5_code
def yX6_readMoon : MethodName := ⟨RX6, "readMoon", "()V"⟩
abbrev cX6_readPlace : ByteArray := prog_8_method_6_code
def yX6_readPlace : MethodName := ⟨RX6, "readPlace", "()V"⟩
abbrev cX6_readReport : ByteArray := prog_8_method_7_code
def yX6_readReport : MethodName := ⟨RX6, "readReport", "(I)V"⟩
abbrev cX6_readDeed : ByteArray := prog_8_method_8_code
def yX6_readDeed : MethodName := ⟨RX6, "readDeed", "()V"⟩
abbrev cX6_blame : ByteArray := prog_8_method_9_code
def yX6_blame : MethodName := ⟨RX6, "blame", "(II)V"⟩
abbrev cX6_expect : ByteArray := prog_8_method_10_code
def yX6_expect : MethodName := ⟨RX6, "expect", "(ZI)V"⟩
abbrev cX6_passHead : ByteArray := prog_8_method_11_code
def yX6_passHead : MethodName := ⟨RX6, "passHead", "(Z)V"⟩
abbrev cX6_passWord : ByteArray := prog_8_method_12_code
def yX6_passWord : MethodName := ⟨RX6, "passWord", "(Ljava/lang/String;)V"⟩
abbrev cX6_passSign : ByteArray := prog_8_method_13_code
def yX6_passSign : MethodName := ⟨RX6, "passSign", "()V"⟩
abbrev cX6_passNumber : ByteArray := prog_8_method_14_code
def yX6_passNumber : MethodName := ⟨RX6, "passNumber", "(II)I"⟩
abbrev cX6_passName : ByteArray := prog_8_method_15_code
def yX6_passName : MethodName := ⟨RX6, "passName", "(Z)I"⟩
abbrev cX6_nameHere : ByteArray := prog_8_method_16_code
def yX6_nameHere : MethodName := ⟨RX6, "nameHere", "()I"⟩
abbrev cX6_valueHere : ByteArray := prog_8_method_17_code
def yX6_valueHere : MethodName := ⟨RX6, "valueHere", "()I"⟩
abbrev cX6_isWord : ByteArray := prog_8_method_18_code
def yX6_isWord : MethodName := ⟨RX6, "isWord", "(Ljava/lang/String;)Z"⟩
abbrev cX6_step : ByteArray := prog_8_method_19_code
def yX6_step : MethodName := ⟨RX6, "step", "()V"⟩
abbrev cX6_byteAt : ByteArray := prog_8_method_20_code
def yX6_byteAt : MethodName := ⟨RX6, "byteAt", "(I)I"⟩
abbrev cX6_isLetter : ByteArray := prog_8_method_21_code
def yX6_isLetter : MethodName := ⟨RX6, "isLetter", "(I)Z"⟩
abbrev cX6_isDigit : ByteArray := prog_8_method_22_code
def yX6_isDigit : MethodName := ⟨RX6, "isDigit", "(I)Z"⟩
abbrev cX6_isBlank : ByteArray := prog_8_method_23_code
def yX6_isBlank : MethodName := ⟨RX6, "isBlank", "(I)Z"⟩
def RX7 : String := "SightedMonths$Report"
def TX7 : u_T := fun k => match k with
  | 0 => ("SightedMonths$Report", "place", "I", false)
  | 1 => ("SightedMonths$Report", "kind", "I", false)
  | 2 => ("SightedMonths$Report", "month", "I", false)
  | 3 => ("SightedMonths$Report", "day", "I", false)
  | 4 => ("SightedMonths$Report", "known", "I", false)
  | _ => ("SightedMonths$Report", "struck", "Z", false)
def tyX7 : Nat → FieldType := fun k => match k with
  | 0 => .int
  | 1 => .int
  | 2 => .int
  | 3 => .int
  | 4 => .int
  | _ => .boolean
abbrev wsX70 : List Cond := u_ws RX7 TX7 6
theorem nmX7 : ∀ a, a < 6 → ∀ b, b < 6 → a ≠ b → (TX7 a).2.1 ≠ (TX7 b).2.1 := by decide +kernel
theorem tyX7_ok : ∀ k, k < 6 → parseFieldDescriptor (TX7 k).2.2.1 = some (tyX7 k) := by decide +kernel
abbrev cX7_init : ByteArray := prog_9_method_1_code
def yX7_init : MethodName := ⟨RX7, "<init>", "()V"⟩
abbrev cX7_isKnownBy : ByteArray := prog_9_method_2_code
def yX7_isKnownBy : MethodName := ⟨RX7, "isKnownBy", "(I)Z"⟩
def RX8 : String := "SightedMonths$Search"
def TX8 : u_T := fun k => match k with
  | 0 => ("SightedMonths$Search", "costs", "[I", true)
  | 1 => ("SightedMonths$Search", "leasts", "[I", true)
  | 2 => ("SightedMonths$Search", "months", "I", false)
  | 3 => ("SightedMonths$Search", "full", "I", false)
  | _ => ("SightedMonths$Search", "lean", "I", false)
def tyX8 : Nat → FieldType := fun k => match k with
  | 0 => .array .int
  | 1 => .array .int
  | 2 => .int
  | 3 => .int
  | _ => .int
abbrev wsX80 : List Cond := u_ws RX8 TX8 5
theorem nmX8 : ∀ a, a < 5 → ∀ b, b < 5 → a ≠ b → (TX8 a).2.1 ≠ (TX8 b).2.1 := by decide +kernel
theorem tyX8_ok : ∀ k, k < 5 → parseFieldDescriptor (TX8 k).2.2.1 = some (tyX8 k) := by decide +kernel
abbrev cX8_init : ByteArray := prog_10_method_1_code
def yX8_init : MethodName := ⟨RX8, "<init>", "()V"⟩
abbrev cX8_wipe : ByteArray := prog_10_method_2_code
def yX8_wipe : MethodName := ⟨RX8, "wipe", "()V"⟩
abbrev cX8_charge : ByteArray := prog_10_method_3_code
def yX8_charge : MethodName := ⟨RX8, "charge", "(III)V"⟩
abbrev cX8_run : ByteArray := prog_10_method_4_code
def yX8_run : MethodName := ⟨RX8, "run", "(LSightedMonths$Frame;)V"⟩
abbrev cX8_fillCell : ByteArray := prog_10_method_5_code
def yX8_fillCell : MethodName := ⟨RX8, "fillCell", "(II)V"⟩
abbrev cX8_withFull : ByteArray := prog_10_method_6_code
def yX8_withFull : MethodName := ⟨RX8, "withFull", "(III)I"⟩
abbrev cX8_withLean : ByteArray := prog_10_method_7_code
def yX8_withLean : MethodName := ⟨RX8, "withLean", "(III)I"⟩
abbrev cX8_least : ByteArray := prog_10_method_8_code
def yX8_least : MethodName := ⟨RX8, "least", "()I"⟩
abbrev cX8_fullBits : ByteArray := prog_10_method_9_code
def yX8_fullBits : MethodName := ⟨RX8, "fullBits", "()I"⟩
def RX9 : String := "SightedMonths$Tally"
def TX9 : u_T := fun k => match k with
  | 0 => ("SightedMonths$Tally", "before", "[I", true)
  | 1 => ("SightedMonths$Tally", "behind", "[I", true)
  | 2 => ("SightedMonths$Tally", "starts", "[I", true)
  | 3 => ("SightedMonths$Tally", "months", "I", false)
  | 4 => ("SightedMonths$Tally", "full", "I", false)
  | _ => ("SightedMonths$Tally", "lean", "I", false)
def tyX9 : Nat → FieldType := fun k => match k with
  | 0 => .array .int
  | 1 => .array .int
  | 2 => .array .int
  | 3 => .int
  | 4 => .int
  | _ => .int
abbrev wsX90 : List Cond := u_ws RX9 TX9 6
theorem nmX9 : ∀ a, a < 6 → ∀ b, b < 6 → a ≠ b → (TX9 a).2.1 ≠ (TX9 b).2.1 := by decide +kernel
theorem tyX9_ok : ∀ k, k < 6 → parseFieldDescriptor (TX9 k).2.2.1 = some (tyX9 k) := by decide +kernel
abbrev cX9_init : ByteArray := prog_11_method_1_code
def yX9_init : MethodName := ⟨RX9, "<init>", "()V"⟩
abbrev cX9_fill : ByteArray := prog_11_method_2_code
def yX9_fill : MethodName := ⟨RX9, "fill", "(LSightedMonths$Frame;)V"⟩
abbrev cX9_countBefore : ByteArray := prog_11_method_3_code
def yX9_countBefore : MethodName := ⟨RX9, "countBefore", "(LSightedMonths$Frame;)V"⟩
abbrev cX9_takeOnWithFull : ByteArray := prog_11_method_4_code
def yX9_takeOnWithFull : MethodName := ⟨RX9, "takeOnWithFull", "(II)V"⟩
abbrev cX9_takeOnWithLean : ByteArray := prog_11_method_5_code
def yX9_takeOnWithLean : MethodName := ⟨RX9, "takeOnWithLean", "(II)V"⟩
abbrev cX9_countBehind : ByteArray := prog_11_method_6_code
def yX9_countBehind : MethodName := ⟨RX9, "countBehind", "()V"⟩
abbrev cX9_countStarts : ByteArray := prog_11_method_7_code
def yX9_countStarts : MethodName := ⟨RX9, "countStarts", "()V"⟩
abbrev cX9_withFull : ByteArray := prog_11_method_8_code
def yX9_withFull : MethodName := ⟨RX9, "withFull", "(III)I"⟩
abbrev cX9_withLean : ByteArray := prog_11_method_9_code
def yX9_withLean : MethodName := ⟨RX9, "withLean", "(III)I"⟩
abbrev cX9_total : ByteArray := prog_11_method_10_code
def yX9_total : MethodName := ⟨RX9, "total", "()I"⟩
abbrev cX9_onDay : ByteArray := prog_11_method_11_code
def yX9_onDay : MethodName := ⟨RX9, "onDay", "(II)I"⟩
abbrev cX9_onWeekday : ByteArray := prog_11_method_12_code
def yX9_onWeekday : MethodName := ⟨RX9, "onWeekday", "(III)I"⟩
abbrev cX9_bound : ByteArray := prog_11_method_13_code
def yX9_bound : MethodName := ⟨RX9, "bound", "(IZ)I"⟩
abbrev cX9_mostLeft : ByteArray := prog_11_method_14_code
def yX9_mostLeft : MethodName := ⟨RX9, "mostLeft", "(I)I"⟩
abbrev cX9_leanIn : ByteArray := prog_11_method_15_code
def yX9_leanIn : MethodName := ⟨RX9, "leanIn", "(I)I"⟩
abbrev cX9_dated : ByteArray := prog_11_method_16_code
def yX9_dated : MethodName := ⟨RX9, "dated", "(III)I"⟩
abbrev cX9_beginOf : ByteArray := prog_11_method_17_code
def yX9_beginOf : MethodName := ⟨RX9, "beginOf", "(II)I"⟩
abbrev cX9_indexOf : ByteArray := prog_11_method_18_code
def yX9_indexOf : MethodName := ⟨RX9, "indexOf", "(I)I"⟩
def RX10 : String := "SightedMonths$Tape"
def TX10 : u_T := fun k => match k with
  | 0 => ("SightedMonths$Tape", "bytes", "[B", true)
  | _ => ("SightedMonths$Tape", "length", "I", false)
def tyX10 : Nat → FieldType := fun k => match k with
  | 0 => .array .byte
  | _ => .int
abbrev wsX100 : List Cond := u_ws RX10 TX10 2
theorem nmX10 : ∀ a, a < 2 → ∀ b, b < 2 → a ≠ b → (TX10 a).2.1 ≠ (TX10 b).2.1 := by decide +kernel
theorem tyX10_ok : ∀ k, k < 2 → parseFieldDescriptor (TX10 k).2.2.1 = some (tyX10 k) := by decide +kernel
abbrev cX10_init : ByteArray := prog_12_method_1_code
def yX10_init : MethodName := ⟨RX10, "<init>", "()V"⟩
abbrev cX10_put : ByteArray := prog_12_method_2_code
def yX10_put : MethodName := ⟨RX10, "put", "(I)V"⟩
def RX11 : String := "SightedMonths"
def TX11 : u_T := fun k => match k with
  | 0 => ("SightedMonths", "reader", "LSightedMonths$Reader;", true)
  | 1 => ("SightedMonths", "almanac", "LSightedMonths$Almanac;", false)
  | 2 => ("SightedMonths", "spare", "LSightedMonths$Almanac;", true)
  | 3 => ("SightedMonths", "freeFrame", "LSightedMonths$Frame;", true)
  | 4 => ("SightedMonths", "court", "LSightedMonths$Court;", true)
  | 5 => ("SightedMonths", "otherCourt", "LSightedMonths$Court;", true)
  | 6 => ("SightedMonths", "tally", "LSightedMonths$Tally;", true)
  | 7 => ("SightedMonths", "search", "LSightedMonths$Search;", true)
  | 8 => ("SightedMonths", "history", "LSightedMonths$History;", true)
  | 9 => ("SightedMonths", "kept", "[I", true)
  | 10 => ("SightedMonths", "out", "[B", true)
  | 11 => ("SightedMonths", "outLength", "I", false)
  | 12 => ("SightedMonths", "courtStands", "Z", false)
  | 13 => ("SightedMonths", "courtNews", "I", false)
  | 14 => ("SightedMonths", "tallyStands", "Z", false)
  | _ => ("SightedMonths", "historyStands", "Z", false)
def tyX11 : Nat → FieldType := fun k => match k with
  | 0 => .object "SightedMonths$Reader"
  | 1 => .object "SightedMonths$Almanac"
  | 2 => .object "SightedMonths$Almanac"
  | 3 => .object "SightedMonths$Frame"
  | 4 => .object "SightedMonths$Court"
  | 5 => .object "SightedMonths$Court"
  | 6 => .object "SightedMonths$Tally"
  | 7 => .object "SightedMonths$Search"
  | 8 => .object "SightedMonths$History"
  | 9 => .array .int
  | 10 => .array .byte
  | 11 => .int
  | 12 => .boolean
  | 13 => .int
  | 14 => .boolean
  | _ => .boolean
abbrev wsX110 : List Cond := u_ws RX11 TX11 16
theorem nmX11 : ∀ a, a < 16 → ∀ b, b < 16 → a ≠ b → (TX11 a).2.1 ≠ (TX11 b).2.1 := by decide +kernel
theorem tyX11_ok : ∀ k, k < 16 → parseFieldDescriptor (TX11 k).2.2.1 = some (tyX11 k) := by decide +kernel
abbrev cX11_init : ByteArray := prog_1_method_1_code
def yX11_init : MethodName := ⟨RX11, "<init>", "()V"⟩
abbrev cX11_feed : ByteArray := prog_1_method_2_code
def yX11_feed : MethodName := ⟨RX11, "feed", "(IIIII)I"⟩
abbrev cX11_end : ByteArray := prog_1_method_3_code
def yX11_end : MethodName := ⟨RX11, "end", "(I)I"⟩
abbrev cX11_almanac : ByteArray := prog_1_method_4_code
def yX11_almanac : MethodName := ⟨RX11, "almanac", "()I"⟩
abbrev cX11_fault : ByteArray := prog_1_method_5_code
def yX11_fault : MethodName := ⟨RX11, "fault", "(I)I"⟩
abbrev cX11_count : ByteArray := prog_1_method_6_code
def yX11_count : MethodName := ⟨RX11, "count", "(I)I"⟩
abbrev cX11_place : ByteArray := prog_1_method_7_code
def yX11_place : MethodName := ⟨RX11, "place", "(II)I"⟩
abbrev cX11_report : ByteArray := prog_1_method_8_code
def yX11_report : MethodName := ⟨RX11, "report", "(II)I"⟩
abbrev cX11_deed : ByteArray := prog_1_method_9_code
def yX11_deed : MethodName := ⟨RX11, "deed", "(II)I"⟩
abbrev cX11_early : ByteArray := prog_1_method_10_code
def yX11_early : MethodName := ⟨RX11, "early", "(I)I"⟩
abbrev cX11_judged : ByteArray := prog_1_method_11_code
def yX11_judged : MethodName := ⟨RX11, "judged", "(II)I"⟩
abbrev cX11_taken : ByteArray := prog_1_method_12_code
def yX11_taken : MethodName := ⟨RX11, "taken", "(I)I"⟩
abbrev cX11_order : ByteArray := prog_1_method_13_code
def yX11_order : MethodName := ⟨RX11, "order", "(II)I"⟩
abbrev cX11_against : ByteArray := prog_1_method_14_code
def yX11_against : MethodName := ⟨RX11, "against", "(II)I"⟩
abbrev cX11_blind : ByteArray := prog_1_method_15_code
def yX11_blind : MethodName := ⟨RX11, "blind", "(II)I"⟩
abbrev cX11_later : ByteArray := prog_1_method_16_code
def yX11_later : MethodName := ⟨RX11, "later", "(I)I"⟩
abbrev cX11_both : ByteArray := prog_1_method_17_code
def yX11_both : MethodName := ⟨RX11, "both", "(II)I"⟩
abbrev cX11_trusted : ByteArray := prog_1_method_18_code
def yX11_trusted : MethodName := ⟨RX11, "trusted", "(II)I"⟩
abbrev cX11_hang : ByteArray := prog_1_method_19_code
def yX11_hang : MethodName := ⟨RX11, "hang", "(II)I"⟩
abbrev cX11_own : ByteArray := prog_1_method_20_code
def yX11_own : MethodName := ⟨RX11, "own", "(III)I"⟩
abbrev cX11_apart : ByteArray := prog_1_method_21_code
def yX11_apart : MethodName := ⟨RX11, "apart", "(III)I"⟩
abbrev cX11_ways : ByteArray := prog_1_method_22_code
def yX11_ways : MethodName := ⟨RX11, "ways", "(I)I"⟩
abbrev cX11_span : ByteArray := prog_1_method_23_code
def yX11_span : MethodName := ⟨RX11, "span", "(III)I"⟩
abbrev cX11_sure : ByteArray := prog_1_method_24_code
def yX11_sure : MethodName := ⟨RX11, "sure", "(I)I"⟩
abbrev cX11_could : ByteArray := prog_1_method_25_code
def yX11_could : MethodName := ⟨RX11, "could", "(III)I"⟩
abbrev cX11_lean : ByteArray := prog_1_method_26_code
def yX11_lean : MethodName := ⟨RX11, "lean", "(II)I"⟩
abbrev cX11_ranked : ByteArray := prog_1_method_27_code
def yX11_ranked : MethodName := ⟨RX11, "ranked", "(III)I"⟩
abbrev cX11_rank : ByteArray := prog_1_method_28_code
def yX11_rank : MethodName := ⟨RX11, "rank", "(II)I"⟩
abbrev cX11_drawn : ByteArray := prog_1_method_29_code
def yX11_drawn : MethodName := ⟨RX11, "drawn", "(II)I"⟩
abbrev cX11_dates : ByteArray := prog_1_method_30_code
def yX11_dates : MethodName := ⟨RX11, "dates", "(II)I"⟩
abbrev cX11_likely : ByteArray := prog_1_method_31_code
def yX11_likely : MethodName := ⟨RX11, "likely", "(II)I"⟩
abbrev cX11_telling : ByteArray := prog_1_method_32_code
def yX11_telling : MethodName := ⟨RX11, "telling", "(I)I"⟩
abbrev cX11_weekday : ByteArray := prog_1_method_33_code
def yX11_weekday : MethodName := ⟨RX11, "weekday", "(IIII)I"⟩
abbrev cX11_nearest : ByteArray := prog_1_method_34_code
def yX11_nearest : MethodName := ⟨RX11, "nearest", "(II)I"⟩
abbrev cX11_backed : ByteArray := prog_1_method_35_code
def yX11_backed : MethodName := ⟨RX11, "backed", "(II)I"⟩
abbrev cX11_begin : ByteArray := prog_1_method_36_code
def yX11_begin : MethodName := ⟨RX11, "begin", "(II)I"⟩
abbrev cX11_lasts : ByteArray := prog_1_method_37_code
def yX11_lasts : MethodName := ⟨RX11, "lasts", "(II)I"⟩
abbrev cX11_day : ByteArray := prog_1_method_38_code
def yX11_day : MethodName := ⟨RX11, "day", "(III)I"⟩
abbrev cX11_date : ByteArray := prog_1_method_39_code
def yX11_date : MethodName := ⟨RX11, "date", "(II)I"⟩
abbrev cX11_moved : ByteArray := prog_1_method_40_code
def yX11_moved : MethodName := ⟨RX11, "moved", "(III)I"⟩
abbrev cX11_shifts : ByteArray := prog_1_method_41_code
def yX11_shifts : MethodName := ⟨RX11, "shifts", "(I)I"⟩
abbrev cX11_settled : ByteArray := prog_1_method_42_code
def yX11_settled : MethodName := ⟨RX11, "settled", "(I)I"⟩
abbrev cX11_tell : ByteArray := prog_1_method_43_code
def yX11_tell : MethodName := ⟨RX11, "tell", "(I)I"⟩
abbrev cX11_octet : ByteArray := prog_1_method_44_code
def yX11_octet : MethodName := ⟨RX11, "octet", "(I)I"⟩
abbrev cX11_due : ByteArray := prog_1_method_45_code
def yX11_due : MethodName := ⟨RX11, "due", "(II)I"⟩
abbrev cX11_dueSpan : ByteArray := prog_1_method_46_code
def yX11_dueSpan : MethodName := ⟨RX11, "dueSpan", "(III)I"⟩
abbrev cX11_dueOn : ByteArray := prog_1_method_47_code
def yX11_dueOn : MethodName := ⟨RX11, "dueOn", "(III)I"⟩
abbrev cX11_redated : ByteArray := prog_1_method_48_code
def yX11_redated : MethodName := ⟨RX11, "redated", "(I)I"⟩
abbrev cX11_longer : ByteArray := prog_1_method_49_code
def yX11_longer : MethodName := ⟨RX11, "longer", "(III)I"⟩
abbrev cX11_days : ByteArray := prog_1_method_50_code
def yX11_days : MethodName := ⟨RX11, "days", "(II)I"⟩
abbrev cX11_reports : ByteArray := prog_1_method_51_code
def yX11_reports : MethodName := ⟨RX11, "reports", "(IIIII)I"⟩
abbrev cX11_strikes : ByteArray := prog_1_method_52_code
def yX11_strikes : MethodName := ⟨RX11, "strikes", "(I)I"⟩
abbrev cX11_trusts : ByteArray := prog_1_method_53_code
def yX11_trusts : MethodName := ⟨RX11, "trusts", "(II)I"⟩
abbrev cX11_moon : ByteArray := prog_1_method_54_code
def yX11_moon : MethodName := ⟨RX11, "moon", "(II)I"⟩
abbrev cX11_runs : ByteArray := prog_1_method_55_code
def yX11_runs : MethodName := ⟨RX11, "runs", "(II)I"⟩
abbrev cX11_isTold : ByteArray := prog_1_method_56_code
def yX11_isTold : MethodName := ⟨RX11, "isTold", "()Z"⟩
abbrev cX11_hasTime : ByteArray := prog_1_method_57_code
def yX11_hasTime : MethodName := ⟨RX11, "hasTime", "(I)Z"⟩
abbrev cX11_hasMonth : ByteArray := prog_1_method_58_code
def yX11_hasMonth : MethodName := ⟨RX11, "hasMonth", "(III)Z"⟩
abbrev cX11_hasDate : ByteArray := prog_1_method_59_code
def yX11_hasDate : MethodName := ⟨RX11, "hasDate", "(II)Z"⟩
abbrev cX11_hasPlace : ByteArray := prog_1_method_60_code
def yX11_hasPlace : MethodName := ⟨RX11, "hasPlace", "(I)Z"⟩
abbrev cX11_hasReport : ByteArray := prog_1_method_61_code
def yX11_hasReport : MethodName := ⟨RX11, "hasReport", "(I)Z"⟩
abbrev cX11_hasDeed : ByteArray := prog_1_method_62_code
def yX11_hasDeed : MethodName := ⟨RX11, "hasDeed", "(I)Z"⟩
abbrev cX11_isEither : ByteArray := prog_1_method_63_code
def yX11_isEither : MethodName := ⟨RX11, "isEither", "(I)Z"⟩
abbrev cX11_forget : ByteArray := prog_1_method_64_code
def yX11_forget : MethodName := ⟨RX11, "forget", "()V"⟩
abbrev cX11_courtBy : ByteArray := prog_1_method_65_code
def yX11_courtBy : MethodName := ⟨RX11, "courtBy", "(I)LSightedMonths$Court;"⟩
abbrev cX11_tallyBy : ByteArray := prog_1_method_66_code
def yX11_tallyBy : MethodName := ⟨RX11, "tallyBy", "(I)LSightedMonths$Tally;"⟩
abbrev cX11_historyNow : ByteArray := prog_1_method_67_code
def yX11_historyNow : MethodName := ⟨RX11, "historyNow", "()LSightedMonths$History;"⟩
abbrev cX11_canBothBe : ByteArray := prog_1_method_68_code
def yX11_canBothBe : MethodName := ⟨RX11, "canBothBe", "(II)Z"⟩
abbrev cX11_judgeAlone : ByteArray := prog_1_method_69_code
def yX11_judgeAlone : MethodName := ⟨RX11, "judgeAlone", "(II)V"⟩
abbrev cX11_unlikeBegins : ByteArray := prog_1_method_70_code
def yX11_unlikeBegins : MethodName := ⟨RX11, "unlikeBegins", "([I[I)I"⟩
abbrev cX11_backReport : ByteArray := prog_1_method_71_code
def yX11_backReport : MethodName := ⟨RX11, "backReport", "(LSightedMonths$Report;)V"⟩
abbrev cX11_endByOfficial : ByteArray := prog_1_method_72_code
def yX11_endByOfficial : MethodName := ⟨RX11, "endByOfficial", "(II)I"⟩
abbrev cX11_leastLead : ByteArray := prog_1_method_73_code
def yX11_leastLead : MethodName := ⟨RX11, "leastLead", "(ILSightedMonths$Deed;LSightedMonths$Deed;)I"⟩
abbrev cX11_putOut : ByteArray := prog_1_method_74_code
def yX11_putOut : MethodName := ⟨RX11, "putOut", "(C)V"⟩
abbrev cX11_dayOf : ByteArray := prog_1_method_75_code
def yX11_dayOf : MethodName := ⟨RX11, "dayOf", "(II)I"⟩
abbrev cX11_anchorOf : ByteArray := prog_1_method_76_code
def yX11_anchorOf : MethodName := ⟨RX11, "anchorOf", "(II)I"⟩
abbrev cX11_offsetOf : ByteArray := prog_1_method_77_code
def yX11_offsetOf : MethodName := ⟨RX11, "offsetOf", "(I)I"⟩
abbrev cX11_runWithFull : ByteArray := prog_1_method_78_code
def yX11_runWithFull : MethodName := ⟨RX11, "runWithFull", "(II)I"⟩
abbrev cX11_runWithLean : ByteArray := prog_1_method_79_code
def yX11_runWithLean : MethodName := ⟨RX11, "runWithLean", "(III)I"⟩
abbrev cX11_firstRun : ByteArray := prog_1_method_80_code
def yX11_firstRun : MethodName := ⟨RX11, "firstRun", "(I)I"⟩
abbrev cX11_lastRun : ByteArray := prog_1_method_81_code
def yX11_lastRun : MethodName := ⟨RX11, "lastRun", "(III)I"⟩
abbrev cX11_cell : ByteArray := prog_1_method_82_code
def yX11_cell : MethodName := ⟨RX11, "cell", "(II)I"⟩
abbrev cX11_spot : ByteArray := prog_1_method_83_code
def yX11_spot : MethodName := ⟨RX11, "spot", "(III)I"⟩
def RX12 : String := "SightedMonthsModel"
def TX12 : u_T := fun k => match k with
  | 0 => ("SightedMonthsModel", "months", "I", false)
  | 1 => ("SightedMonthsModel", "mostFull", "I", false)
  | 2 => ("SightedMonthsModel", "mostLean", "I", false)
  | 3 => ("SightedMonthsModel", "lines", "I", false)
  | 4 => ("SightedMonthsModel", "hasMoon", "Z", false)
  | 5 => ("SightedMonthsModel", "moonFirst", "I", false)
  | 6 => ("SightedMonthsModel", "moonStep", "I", false)
  | 7 => ("SightedMonthsModel", "places", "I", false)
  | 8 => ("SightedMonthsModel", "trust", "[I", true)
  | 9 => ("SightedMonthsModel", "letter", "[I", true)
  | 10 => ("SightedMonthsModel", "reports", "I", false)
  | 11 => ("SightedMonthsModel", "reportPlace", "[I", true)
  | 12 => ("SightedMonthsModel", "reportKind", "[I", true)
  | 13 => ("SightedMonthsModel", "struck", "[Z", true)
  | 14 => ("SightedMonthsModel", "reportMonth", "[I", true)
  | 15 => ("SightedMonthsModel", "reportDay", "[I", true)
  | 16 => ("SightedMonthsModel", "reportKnown", "[I", true)
  | 17 => ("SightedMonthsModel", "deeds", "I", false)
  | 18 => ("SightedMonthsModel", "deedMonth", "[I", true)
  | 19 => ("SightedMonthsModel", "deedDay", "[I", true)
  | 20 => ("SightedMonthsModel", "deedLong", "[I", true)
  | 21 => ("SightedMonthsModel", "deedKind", "[I", true)
  | 22 => ("SightedMonthsModel", "kept", "[I", true)
  | 23 => ("SightedMonthsModel", "keptAt", "I", false)
  | 24 => ("SightedMonthsModel", "keeps", "Z", false)
  | 25 => ("SightedMonthsModel", "tape", "[I", true)
  | 26 => ("SightedMonthsModel", "taped", "I", false)
  | 27 => ("SightedMonthsModel", "faultKind", "I", false)
  | 28 => ("SightedMonthsModel", "faultPlace", "I", false)
  | 29 => ("SightedMonthsModel", "at", "I", false)
  | 30 => ("SightedMonthsModel", "begin", "I", false)
  | 31 => ("SightedMonthsModel", "token", "I", false)
  | 32 => ("SightedMonthsModel", "value", "I", false)
  | 33 => ("SightedMonthsModel", "bad", "Z", false)
  | 34 => ("SightedMonthsModel", "must", "[I", true)
  | 35 => ("SightedMonthsModel", "least", "[I", true)
  | 36 => ("SightedMonthsModel", "pin", "[I", true)
  | 37 => ("SightedMonthsModel", "isBroken", "Z", false)
  | 38 => ("SightedMonthsModel", "ways", "[I", true)
  | 39 => ("SightedMonthsModel", "verdict", "[I", true)
  | 40 => ("SightedMonthsModel", "row", "[I", true)
  | 41 => ("SightedMonthsModel", "rowMany", "I", false)
  | 42 => ("SightedMonthsModel", "only", "I", false)
  | 43 => ("SightedMonthsModel", "without", "I", false)
  | 44 => ("SightedMonthsModel", "otherTrust", "I", false)
  | 45 => ("SightedMonthsModel", "whose", "I", false)
  | 46 => ("SightedMonthsModel", "official", "[I", true)
  | 47 => ("SightedMonthsModel", "rankedFull", "I", false)
  | 48 => ("SightedMonthsModel", "changes", "I", false)
  | 49 => ("SightedMonthsModel", "latestChange", "I", false)
  | 50 => ("SightedMonthsModel", "canBeLess", "Z", false)
  | 51 => ("SightedMonthsModel", "canBeMore", "Z", false)
  | 52 => ("SightedMonthsModel", "aside", "[I", true)
  | 53 => ("SightedMonthsModel", "worth", "[I", true)
  | 54 => ("SightedMonthsModel", "worthFull", "I", false)
  | 55 => ("SightedMonthsModel", "out", "[I", true)
  | _ => ("SightedMonthsModel", "outs", "I", false)
def tyX12 : Nat → FieldType := fun k => match k with
  | 0 => .int
  | 1 => .int
  | 2 => .int
  | 3 => .int
  | 4 => .boolean
  | 5 => .int
  | 6 => .int
  | 7 => .int
  | 8 => .array .int
  | 9 => .array .int
  | 10 => .int
  | 11 => .array .int
  | 12 => .array .int
  | 13 => .array .boolean
  | 14 => .array .int
  | 15 => .array .int
  | 16 => .array .int
  | 17 => .int
  | 18 => .array .int
  | 19 => .array .int
  | 20 => .array .int
  | 21 => .array .int
  | 22 => .array .int
  | 23 => .int
  | 24 => .boolean
  | 25 => .array .int
  | 26 => .int
  | 27 => .int
  | 28 => .int
  | 29 => .int
  | 30 => .int
  | 31 => .int
  | 32 => .int
  | 33 => .boolean
  | 34 => .array .int
  | 35 => .array .int
  | 36 => .array .int
  | 37 => .boolean
  | 38 => .array .int
  | 39 => .array .int
  | 40 => .array .int
  | 41 => .int
  | 42 => .int
  | 43 => .int
  | 44 => .int
  | 45 => .int
  | 46 => .array .int
  | 47 => .int
  | 48 => .int
  | 49 => .int
  | 50 => .boolean
  | 51 => .boolean
  | 52 => .array .int
  | 53 => .array .int
  | 54 => .int
  | 55 => .array .int
  | _ => .int
abbrev wsX120 : List Cond := u_ws RX12 TX12 57
theorem nmX12 : ∀ a, a < 57 → ∀ b, b < 57 → a ≠ b → (TX12 a).2.1 ≠ (TX12 b).2.1 := by decide +kernel
theorem tyX12_ok : ∀ k, k < 57 → parseFieldDescriptor (TX12 k).2.2.1 = some (tyX12 k) := by decide +kernel
abbrev cX12_in : ByteArray := prog_14_method_1_code
def yX12_in : MethodName := ⟨RX12, "in", "(JJJ)Z"⟩
abbrev cX12_init : ByteArray := prog_14_method_3_code
def yX12_init : MethodName := ⟨RX12, "<init>", "()V"⟩
abbrev cX12_feed : ByteArray := prog_14_method_4_code
def yX12_feed : MethodName := ⟨RX12, "feed", "(IIIII)I"⟩
abbrev cX12_end : ByteArray := prog_14_method_5_code
def yX12_end : MethodName := ⟨RX12, "end", "(I)I"⟩
abbrev cX12_moves : ByteArray := prog_14_method_6_code
def yX12_moves : MethodName := ⟨RX12, "moves", "(I)I"⟩
abbrev cX12_movesRow : ByteArray := prog_14_method_7_code
def yX12_movesRow : MethodName := ⟨RX12, "movesRow", "([I)V"⟩
abbrev cX12_movesAll : ByteArray := prog_14_method_8_code
def yX12_movesAll : MethodName := ⟨RX12, "movesAll", "(Z)V"⟩
abbrev cX12_isAt : ByteArray := prog_14_method_9_code
def yX12_isAt : MethodName := ⟨RX12, "isAt", "(II)Z"⟩
abbrev cX12_next : ByteArray := prog_14_method_10_code
def yX12_next : MethodName := ⟨RX12, "next", "()V"⟩
abbrev cX12_faultsAt : ByteArray := prog_14_method_11_code
def yX12_faultsAt : MethodName := ⟨RX12, "faultsAt", "(II)V"⟩
abbrev cX12_faults : ByteArray := prog_14_method_12_code
def yX12_faults : MethodName := ⟨RX12, "faults", "(I)V"⟩
abbrev cX12_isWord : ByteArray := prog_14_method_13_code
def yX12_isWord : MethodName := ⟨RX12, "isWord", "(Ljava/lang/String;)Z"⟩
abbrev cX12_passes : ByteArray := prog_14_method_14_code
def yX12_passes : MethodName := ⟨RX12, "passes", "(Z)V"⟩
abbrev cX12_word : ByteArray := prog_14_method_15_code
def yX12_word : MethodName := ⟨RX12, "word", "(Ljava/lang/String;)V"⟩
abbrev cX12_number : ByteArray := prog_14_method_16_code
def yX12_number : MethodName := ⟨RX12, "number", "(II)I"⟩
abbrev cX12_numberBehind : ByteArray := prog_14_method_17_code
def yX12_numberBehind : MethodName := ⟨RX12, "numberBehind", "(Ljava/lang/String;II)I"⟩
abbrev cX12_named : ByteArray := prog_14_method_18_code
def yX12_named : MethodName := ⟨RX12, "named", "()I"⟩
abbrev cX12_placeHere : ByteArray := prog_14_method_19_code
def yX12_placeHere : MethodName := ⟨RX12, "placeHere", "()I"⟩
abbrev cX12_readsPlace : ByteArray := prog_14_method_20_code
def yX12_readsPlace : MethodName := ⟨RX12, "readsPlace", "()V"⟩
abbrev cX12_readsReport : ByteArray := prog_14_method_21_code
def yX12_readsReport : MethodName := ⟨RX12, "readsReport", "(I)V"⟩
abbrev cX12_lays : ByteArray := prog_14_method_22_code
def yX12_lays : MethodName := ⟨RX12, "lays", "(IIIII)V"⟩
abbrev cX12_readsDeed : ByteArray := prog_14_method_23_code
def yX12_readsDeed : MethodName := ⟨RX12, "readsDeed", "()V"⟩
abbrev cX12_readsMoon : ByteArray := prog_14_method_24_code
def yX12_readsMoon : MethodName := ⟨RX12, "readsMoon", "()V"⟩
abbrev cX12_readsHead : ByteArray := prog_14_method_25_code
def yX12_readsHead : MethodName := ⟨RX12, "readsHead", "()V"⟩
abbrev cX12_readsLine : ByteArray := prog_14_method_26_code
def yX12_readsLine : MethodName := ⟨RX12, "readsLine", "()V"⟩
abbrev cX12_almanac : ByteArray := prog_14_method_27_code
def yX12_almanac : MethodName := ⟨RX12, "almanac", "()I"⟩
abbrev cX12_fault : ByteArray := prog_14_method_28_code
def yX12_fault : MethodName := ⟨RX12, "fault", "(I)I"⟩
abbrev cX12_count : ByteArray := prog_14_method_29_code
def yX12_count : MethodName := ⟨RX12, "count", "(I)I"⟩
abbrev cX12_isTime : ByteArray := prog_14_method_30_code
def yX12_isTime : MethodName := ⟨RX12, "isTime", "(I)Z"⟩
abbrev cX12_isPlace : ByteArray := prog_14_method_31_code
def yX12_isPlace : MethodName := ⟨RX12, "isPlace", "(I)Z"⟩
abbrev cX12_isReport : ByteArray := prog_14_method_32_code
def yX12_isReport : MethodName := ⟨RX12, "isReport", "(I)Z"⟩
abbrev cX12_isDeed : ByteArray := prog_14_method_33_code
def yX12_isDeed : MethodName := ⟨RX12, "isDeed", "(I)Z"⟩
abbrev cX12_isNameAhead : ByteArray := prog_14_method_34_code
def yX12_isNameAhead : MethodName := ⟨RX12, "isNameAhead", "(II)Z"⟩
abbrev cX12_place : ByteArray := prog_14_method_35_code
def yX12_place : MethodName := ⟨RX12, "place", "(II)I"⟩
abbrev cX12_report : ByteArray := prog_14_method_36_code
def yX12_report : MethodName := ⟨RX12, "report", "(II)I"⟩
abbrev cX12_deed : ByteArray := prog_14_method_37_code
def yX12_deed : MethodName := ⟨RX12, "deed", "(II)I"⟩
abbrev cX12_earlyOf : ByteArray := prog_14_method_38_code
def yX12_earlyOf : MethodName := ⟨RX12, "earlyOf", "(I)I"⟩
abbrev cX12_early : ByteArray := prog_14_method_39_code
def yX12_early : MethodName := ⟨RX12, "early", "(I)I"⟩
abbrev cX12_frees : ByteArray := prog_14_method_40_code
def yX12_frees : MethodName := ⟨RX12, "frees", "()V"⟩
abbrev cX12_unpins : ByteArray := prog_14_method_41_code
def yX12_unpins : MethodName := ⟨RX12, "unpins", "()V"⟩
abbrev cX12_isOpen : ByteArray := prog_14_method_42_code
def yX12_isOpen : MethodName := ⟨RX12, "isOpen", "(II)Z"⟩
abbrev cX12_runBehind : ByteArray := prog_14_method_43_code
def yX12_runBehind : MethodName := ⟨RX12, "runBehind", "(II)I"⟩
abbrev cX12_placeOf : ByteArray := prog_14_method_44_code
def yX12_placeOf : MethodName := ⟨RX12, "placeOf", "(III)I"⟩
abbrev cX12_waysBy : ByteArray := prog_14_method_45_code
def yX12_waysBy : MethodName := ⟨RX12, "waysBy", "(IIII)I"⟩
abbrev cX12_counts : ByteArray := prog_14_method_46_code
def yX12_counts : MethodName := ⟨RX12, "counts", "()I"⟩
abbrev cX12_countsWith : ByteArray := prog_14_method_47_code
def yX12_countsWith : MethodName := ⟨RX12, "countsWith", "(IIII)I"⟩
abbrev cX12_trustOf : ByteArray := prog_14_method_48_code
def yX12_trustOf : MethodName := ⟨RX12, "trustOf", "(I)I"⟩
abbrev cX12_isAhead : ByteArray := prog_14_method_49_code
def yX12_isAhead : MethodName := ⟨RX12, "isAhead", "(II)Z"⟩
abbrev cX12_isKnown : ByteArray := prog_14_method_50_code
def yX12_isKnown : MethodName := ⟨RX12, "isKnown", "(II)Z"⟩
abbrev cX12_laysRow : ByteArray := prog_14_method_51_code
def yX12_laysRow : MethodName := ⟨RX12, "laysRow", "(I)V"⟩
abbrev cX12_holds : ByteArray := prog_14_method_52_code
def yX12_holds : MethodName := ⟨RX12, "holds", "(I)V"⟩
abbrev cX12_judges : ByteArray := prog_14_method_53_code
def yX12_judges : MethodName := ⟨RX12, "judges", "(I)I"⟩
abbrev cX12_judgesAll : ByteArray := prog_14_method_54_code
def yX12_judgesAll : MethodName := ⟨RX12, "judgesAll", "(I)V"⟩
abbrev cX12_takenBits : ByteArray := prog_14_method_55_code
def yX12_takenBits : MethodName := ⟨RX12, "takenBits", "()I"⟩
abbrev cX12_judged : ByteArray := prog_14_method_56_code
def yX12_judged : MethodName := ⟨RX12, "judged", "(II)I"⟩
abbrev cX12_taken : ByteArray := prog_14_method_57_code
def yX12_taken : MethodName := ⟨RX12, "taken", "(I)I"⟩
abbrev cX12_order : ByteArray := prog_14_method_58_code
def yX12_order : MethodName := ⟨RX12, "order", "(II)I"⟩
abbrev cX12_areBoth : ByteArray := prog_14_method_59_code
def yX12_areBoth : MethodName := ⟨RX12, "areBoth", "(II)Z"⟩
abbrev cX12_against : ByteArray := prog_14_method_60_code
def yX12_against : MethodName := ⟨RX12, "against", "(II)I"⟩
abbrev cX12_both : ByteArray := prog_14_method_61_code
def yX12_both : MethodName := ⟨RX12, "both", "(II)I"⟩
abbrev cX12_blind : ByteArray := prog_14_method_62_code
def yX12_blind : MethodName := ⟨RX12, "blind", "(II)I"⟩
abbrev cX12_later : ByteArray := prog_14_method_63_code
def yX12_later : MethodName := ⟨RX12, "later", "(I)I"⟩
abbrev cX12_laysOfficial : ByteArray := prog_14_method_64_code
def yX12_laysOfficial : MethodName := ⟨RX12, "laysOfficial", "()V"⟩
abbrev cX12_officialBy : ByteArray := prog_14_method_65_code
def yX12_officialBy : MethodName := ⟨RX12, "officialBy", "(I)V"⟩
abbrev cX12_isBegin : ByteArray := prog_14_method_66_code
def yX12_isBegin : MethodName := ⟨RX12, "isBegin", "(I)Z"⟩
abbrev cX12_isMonth : ByteArray := prog_14_method_67_code
def yX12_isMonth : MethodName := ⟨RX12, "isMonth", "(I)Z"⟩
abbrev cX12_ways : ByteArray := prog_14_method_68_code
def yX12_ways : MethodName := ⟨RX12, "ways", "(I)I"⟩
abbrev cX12_begin : ByteArray := prog_14_method_69_code
def yX12_begin : MethodName := ⟨RX12, "begin", "(II)I"⟩
abbrev cX12_beginsOn : ByteArray := prog_14_method_70_code
def yX12_beginsOn : MethodName := ⟨RX12, "beginsOn", "(II)I"⟩
abbrev cX12_spanOf : ByteArray := prog_14_method_71_code
def yX12_spanOf : MethodName := ⟨RX12, "spanOf", "(II)I"⟩
abbrev cX12_span : ByteArray := prog_14_method_72_code
def yX12_span : MethodName := ⟨RX12, "span", "(III)I"⟩
abbrev cX12_sure : ByteArray := prog_14_method_73_code
def yX12_sure : MethodName := ⟨RX12, "sure", "(I)I"⟩
abbrev cX12_lasts : ByteArray := prog_14_method_74_code
def yX12_lasts : MethodName := ⟨RX12, "lasts", "(II)I"⟩
abbrev cX12_could : ByteArray := prog_14_method_75_code
def yX12_could : MethodName := ⟨RX12, "could", "(III)I"⟩
abbrev cX12_lean : ByteArray := prog_14_method_76_code
def yX12_lean : MethodName := ⟨RX12, "lean", "(II)I"⟩
abbrev cX12_laysRanked : ByteArray := prog_14_method_77_code
def yX12_laysRanked : MethodName := ⟨RX12, "laysRanked", "(I)V"⟩
abbrev cX12_ranked : ByteArray := prog_14_method_78_code
def yX12_ranked : MethodName := ⟨RX12, "ranked", "(III)I"⟩
abbrev cX12_rank : ByteArray := prog_14_method_79_code
def yX12_rank : MethodName := ⟨RX12, "rank", "(II)I"⟩
abbrev cX12_drawn : ByteArray := prog_14_method_80_code
def yX12_drawn : MethodName := ⟨RX12, "drawn", "(II)I"⟩
abbrev cX12_lengthBy : ByteArray := prog_14_method_81_code
def yX12_lengthBy : MethodName := ⟨RX12, "lengthBy", "(I)I"⟩
abbrev cX12_dayBy : ByteArray := prog_14_method_82_code
def yX12_dayBy : MethodName := ⟨RX12, "dayBy", "(II)I"⟩
abbrev cX12_isInMonth : ByteArray := prog_14_method_83_code
def yX12_isInMonth : MethodName := ⟨RX12, "isInMonth", "(I)Z"⟩
abbrev cX12_day : ByteArray := prog_14_method_84_code
def yX12_day : MethodName := ⟨RX12, "day", "(III)I"⟩
abbrev cX12_date : ByteArray := prog_14_method_85_code
def yX12_date : MethodName := ⟨RX12, "date", "(II)I"⟩
abbrev cX12_datesWith : ByteArray := prog_14_method_86_code
def yX12_datesWith : MethodName := ⟨RX12, "datesWith", "(III)I"⟩
abbrev cX12_dates : ByteArray := prog_14_method_87_code
def yX12_dates : MethodName := ⟨RX12, "dates", "(II)I"⟩
abbrev cX12_likely : ByteArray := prog_14_method_88_code
def yX12_likely : MethodName := ⟨RX12, "likely", "(II)I"⟩
abbrev cX12_fallsOn : ByteArray := prog_14_method_89_code
def yX12_fallsOn : MethodName := ⟨RX12, "fallsOn", "(III)I"⟩
abbrev cX12_weekday : ByteArray := prog_14_method_90_code
def yX12_weekday : MethodName := ⟨RX12, "weekday", "(IIII)I"⟩
abbrev cX12_moved : ByteArray := prog_14_method_91_code
def yX12_moved : MethodName := ⟨RX12, "moved", "(III)I"⟩
abbrev cX12_nextTime : ByteArray := prog_14_method_92_code
def yX12_nextTime : MethodName := ⟨RX12, "nextTime", "(I)I"⟩
abbrev cX12_follows : ByteArray := prog_14_method_93_code
def yX12_follows : MethodName := ⟨RX12, "follows", "(II)V"⟩
abbrev cX12_shifts : ByteArray := prog_14_method_94_code
def yX12_shifts : MethodName := ⟨RX12, "shifts", "(I)I"⟩
abbrev cX12_settled : ByteArray := prog_14_method_95_code
def yX12_settled : MethodName := ⟨RX12, "settled", "(I)I"⟩
abbrev cX12_monthOf : ByteArray := prog_14_method_96_code
def yX12_monthOf : MethodName := ⟨RX12, "monthOf", "(I)I"⟩
abbrev cX12_behindOf : ByteArray := prog_14_method_97_code
def yX12_behindOf : MethodName := ⟨RX12, "behindOf", "(I)I"⟩
abbrev cX12_dueBy : ByteArray := prog_14_method_98_code
def yX12_dueBy : MethodName := ⟨RX12, "dueBy", "(I)I"⟩
abbrev cX12_due : ByteArray := prog_14_method_99_code
def yX12_due : MethodName := ⟨RX12, "due", "(II)I"⟩
abbrev cX12_duesOn : ByteArray := prog_14_method_100_code
def yX12_duesOn : MethodName := ⟨RX12, "duesOn", "(II)I"⟩
abbrev cX12_dueSpanOf : ByteArray := prog_14_method_101_code
def yX12_dueSpanOf : MethodName := ⟨RX12, "dueSpanOf", "(II)I"⟩
abbrev cX12_dueSpan : ByteArray := prog_14_method_102_code
def yX12_dueSpan : MethodName := ⟨RX12, "dueSpan", "(III)I"⟩
abbrev cX12_dueOn : ByteArray := prog_14_method_103_code
def yX12_dueOn : MethodName := ⟨RX12, "dueOn", "(III)I"⟩
abbrev cX12_redated : ByteArray := prog_14_method_104_code
def yX12_redated : MethodName := ⟨RX12, "redated", "(I)I"⟩
abbrev cX12_days : ByteArray := prog_14_method_105_code
def yX12_days : MethodName := ⟨RX12, "days", "(II)I"⟩
abbrev cX12_compares : ByteArray := prog_14_method_106_code
def yX12_compares : MethodName := ⟨RX12, "compares", "(II)V"⟩
abbrev cX12_longer : ByteArray := prog_14_method_107_code
def yX12_longer : MethodName := ⟨RX12, "longer", "(III)I"⟩
abbrev cX12_keepsOfficial : ByteArray := prog_14_method_108_code
def yX12_keepsOfficial : MethodName := ⟨RX12, "keepsOfficial", "()V"⟩
abbrev cX12_unlike : ByteArray := prog_14_method_109_code
def yX12_unlike : MethodName := ⟨RX12, "unlike", "()I"⟩
abbrev cX12_ownBy : ByteArray := prog_14_method_110_code
def yX12_ownBy : MethodName := ⟨RX12, "ownBy", "(II)V"⟩
abbrev cX12_own : ByteArray := prog_14_method_111_code
def yX12_own : MethodName := ⟨RX12, "own", "(III)I"⟩
abbrev cX12_apart : ByteArray := prog_14_method_112_code
def yX12_apart : MethodName := ⟨RX12, "apart", "(III)I"⟩
abbrev cX12_hang : ByteArray := prog_14_method_113_code
def yX12_hang : MethodName := ⟨RX12, "hang", "(II)I"⟩
abbrev cX12_trusted : ByteArray := prog_14_method_114_code
def yX12_trusted : MethodName := ⟨RX12, "trusted", "(II)I"⟩
abbrev cX12_telling : ByteArray := prog_14_method_115_code
def yX12_telling : MethodName := ⟨RX12, "telling", "(I)I"⟩
abbrev cX12_worthBy : ByteArray := prog_14_method_116_code
def yX12_worthBy : MethodName := ⟨RX12, "worthBy", "(IIII)I"⟩
abbrev cX12_costOf : ByteArray := prog_14_method_117_code
def yX12_costOf : MethodName := ⟨RX12, "costOf", "(IIIZ)I"⟩
abbrev cX12_laysWorth : ByteArray := prog_14_method_118_code
def yX12_laysWorth : MethodName := ⟨RX12, "laysWorth", "(IZ)I"⟩
abbrev cX12_nearest : ByteArray := prog_14_method_119_code
def yX12_nearest : MethodName := ⟨RX12, "nearest", "(II)I"⟩
abbrev cX12_backed : ByteArray := prog_14_method_120_code
def yX12_backed : MethodName := ⟨RX12, "backed", "(II)I"⟩
abbrev cX12_tell : ByteArray := prog_14_method_121_code
def yX12_tell : MethodName := ⟨RX12, "tell", "(I)I"⟩
abbrev cX12_octet : ByteArray := prog_14_method_122_code
def yX12_octet : MethodName := ⟨RX12, "octet", "(I)I"⟩
abbrev cX12_reports : ByteArray := prog_14_method_123_code
def yX12_reports : MethodName := ⟨RX12, "reports", "(IIIII)I"⟩
abbrev cX12_strikes : ByteArray := prog_14_method_124_code
def yX12_strikes : MethodName := ⟨RX12, "strikes", "(I)I"⟩
abbrev cX12_trusts : ByteArray := prog_14_method_125_code
def yX12_trusts : MethodName := ⟨RX12, "trusts", "(II)I"⟩
abbrev cX12_moon : ByteArray := prog_14_method_126_code
def yX12_moon : MethodName := ⟨RX12, "moon", "(II)I"⟩
abbrev cX12_runs : ByteArray := prog_14_method_127_code
def yX12_runs : MethodName := ⟨RX12, "runs", "(II)I"⟩
def RJx145de : String := "java/io/Serializable"
def TJx145de : u_T := fun k => match k with
  | _ => ("", "", "", false)
def tyJx145de : Nat → FieldType := fun k => match k with
  | _ => .int
abbrev wsJx145de0 : List Cond := u_ws RJx145de TJx145de 0
theorem nmJx145de : ∀ a, a < 0 → ∀ b, b < 0 → a ≠ b → (TJx145de a).2.1 ≠ (TJx145de b).2.1 := by decide +kernel
theorem tyJx145de_ok : ∀ k, k < 0 → parseFieldDescriptor (TJx145de k).2.2.1 = some (tyJx145de k) := by decide +kernel
def RJx9f9b0 : String := "java/lang/CharSequence"
def TJx9f9b0 : u_T := fun k => match k with
  | _ => ("", "", "", false)
def tyJx9f9b0 : Nat → FieldType := fun k => match k with
  | _ => .int
abbrev wsJx9f9b00 : List Cond := u_ws RJx9f9b0 TJx9f9b0 0
theorem nmJx9f9b0 : ∀ a, a < 0 → ∀ b, b < 0 → a ≠ b → (TJx9f9b0 a).2.1 ≠ (TJx9f9b0 b).2.1 := by decide +kernel
theorem tyJx9f9b0_ok : ∀ k, k < 0 → parseFieldDescriptor (TJx9f9b0 k).2.2.1 = some (tyJx9f9b0 k) := by decide +kernel
def RJxb160c : String := "java/lang/Comparable"
def TJxb160c : u_T := fun k => match k with
  | _ => ("", "", "", false)
def tyJxb160c : Nat → FieldType := fun k => match k with
  | _ => .int
abbrev wsJxb160c0 : List Cond := u_ws RJxb160c TJxb160c 0
theorem nmJxb160c : ∀ a, a < 0 → ∀ b, b < 0 → a ≠ b → (TJxb160c a).2.1 ≠ (TJxb160c b).2.1 := by decide +kernel
theorem tyJxb160c_ok : ∀ k, k < 0 → parseFieldDescriptor (TJxb160c k).2.2.1 = some (tyJxb160c k) := by decide +kernel
def RJ6 : String := "java/lang/Integer"
def TJ6 : u_T := fun k => match k with
  | _ => ("", "", "", false)
def tyJ6 : Nat → FieldType := fun k => match k with
  | _ => .int
abbrev wsJ60 : List Cond := u_ws RJ6 TJ6 0
theorem nmJ6 : ∀ a, a < 0 → ∀ b, b < 0 → a ≠ b → (TJ6 a).2.1 ≠ (TJ6 b).2.1 := by decide +kernel
theorem tyJ6_ok : ∀ k, k < 0 → parseFieldDescriptor (TJ6 k).2.2.1 = some (tyJ6 k) := by decide +kernel
abbrev cJ6_bitCount_0f7a4 : ByteArray := prog_15_method_49_code
def yJ6_bitCount_0f7a4 : MethodName := ⟨RJ6, "bitCount", "(I)I"⟩
def RJ9 : String := "java/lang/Math"
def TJ9 : u_T := fun k => match k with
  | _ => ("", "", "", false)
def tyJ9 : Nat → FieldType := fun k => match k with
  | _ => .int
abbrev wsJ90 : List Cond := u_ws RJ9 TJ9 0
theorem nmJ9 : ∀ a, a < 0 → ∀ b, b < 0 → a ≠ b → (TJ9 a).2.1 ≠ (TJ9 b).2.1 := by decide +kernel
theorem tyJ9_ok : ∀ k, k < 0 → parseFieldDescriptor (TJ9 k).2.2.1 = some (tyJ9 k) := by decide +kernel
abbrev cJ9_abs_0f7a4 : ByteArray := prog_16_method_59_code
def yJ9_abs_0f7a4 : MethodName := ⟨RJ9, "abs", "(I)I"⟩
abbrev cJ9_max_7cf53 : ByteArray := prog_16_method_65_code
def yJ9_max_7cf53 : MethodName := ⟨RJ9, "max", "(II)I"⟩
abbrev cJ9_min_7cf53 : ByteArray := prog_16_method_69_code
def yJ9_min_7cf53 : MethodName := ⟨RJ9, "min", "(II)I"⟩
def RJ0 : String := "java/lang/String"
def TJ0 : u_T := fun k => match k with
  | _ => ("", "", "", false)
def tyJ0 : Nat → FieldType := fun k => match k with
  | _ => .int
abbrev wsJ00 : List Cond := u_ws RJ0 TJ0 0
theorem nmJ0 : ∀ a, a < 0 → ∀ b, b < 0 → a ≠ b → (TJ0 a).2.1 ≠ (TJ0 b).2.1 := by decide +kernel
theorem tyJ0_ok : ∀ k, k < 0 → parseFieldDescriptor (TJ0 k).2.2.1 = some (tyJ0 k) := by decide +kernel
abbrev cJ0_length_8abf5 : ByteArray := prog_17_method_54_code
def yJ0_length_8abf5 : MethodName := ⟨RJ0, "length", "()I"⟩
abbrev cJ0_charAt_5068e : ByteArray := prog_17_method_56_code
def yJ0_charAt_5068e : MethodName := ⟨RJ0, "charAt", "(I)C"⟩
abbrev cJ0_coder_7d493 : ByteArray := prog_17_method_152_code
def yJ0_coder_7d493 : MethodName := ⟨RJ0, "coder", "()B"⟩
abbrev cJ0_isLatin1_aae02 : ByteArray := prog_17_method_154_code
def yJ0_isLatin1_aae02 : MethodName := ⟨RJ0, "isLatin1", "()Z"⟩
abbrev cJ0_checkIndex_df160 : ByteArray := prog_17_method_155_code
def yJ0_checkIndex_df160 : MethodName := ⟨RJ0, "checkIndex", "(II)V"⟩
def RJ1 : String := "java/lang/StringLatin1"
def TJ1 : u_T := fun k => match k with
  | _ => ("", "", "", false)
def tyJ1 : Nat → FieldType := fun k => match k with
  | _ => .int
abbrev wsJ10 : List Cond := u_ws RJ1 TJ1 0
theorem nmJ1 : ∀ a, a < 0 → ∀ b, b < 0 → a ≠ b → (TJ1 a).2.1 ≠ (TJ1 b).2.1 := by decide +kernel
theorem tyJ1_ok : ∀ k, k < 0 → parseFieldDescriptor (TJ1 k).2.2.1 = some (tyJ1 k) := by decide +kernel
abbrev cJ1_charAt_3b067 : ByteArray := prog_18_method_2_code
def yJ1_charAt_3b067 : MethodName := ⟨RJ1, "charAt", "([BI)C"⟩
def RJ2 : String := "java/lang/StringUTF16"
def TJ2 : u_T := fun k => match k with
  | _ => ("", "", "", false)
def tyJ2 : Nat → FieldType := fun k => match k with
  | _ => .int
abbrev wsJ20 : List Cond := u_ws RJ2 TJ2 0
theorem nmJ2 : ∀ a, a < 0 → ∀ b, b < 0 → a ≠ b → (TJ2 a).2.1 ≠ (TJ2 b).2.1 := by decide +kernel
theorem tyJ2_ok : ∀ k, k < 0 → parseFieldDescriptor (TJ2 k).2.2.1 = some (tyJ2 k) := by decide +kernel
abbrev cJ2_getChar_3b067 : ByteArray := prog_19_method_5_code
def yJ2_getChar_3b067 : MethodName := ⟨RJ2, "getChar", "([BI)C"⟩
abbrev cJ2_length_9d52b : ByteArray := prog_19_method_6_code
def yJ2_length_9d52b : MethodName := ⟨RJ2, "length", "([B)I"⟩
abbrev cJ2_charAt_3b067 : ByteArray := prog_19_method_83_code
def yJ2_charAt_3b067 : MethodName := ⟨RJ2, "charAt", "([BI)C"⟩
abbrev cJ2_checkIndex_2214a : ByteArray := prog_19_method_91_code
def yJ2_checkIndex_2214a : MethodName := ⟨RJ2, "checkIndex", "(I[B)V"⟩
def RJ10 : String := "java/lang/System"
def TJ10 : u_T := fun k => match k with
  | _ => ("", "", "", false)
def tyJ10 : Nat → FieldType := fun k => match k with
  | _ => .int
abbrev wsJ100 : List Cond := u_ws RJ10 TJ10 0
theorem nmJ10 : ∀ a, a < 0 → ∀ b, b < 0 → a ≠ b → (TJ10 a).2.1 ≠ (TJ10 b).2.1 := by decide +kernel
theorem tyJ10_ok : ∀ k, k < 0 → parseFieldDescriptor (TJ10 k).2.2.1 = some (tyJ10 k) := by decide +kernel
def RJxfd54e : String := "java/lang/constant/Constable"
def TJxfd54e : u_T := fun k => match k with
  | _ => ("", "", "", false)
def tyJxfd54e : Nat → FieldType := fun k => match k with
  | _ => .int
abbrev wsJxfd54e0 : List Cond := u_ws RJxfd54e TJxfd54e 0
theorem nmJxfd54e : ∀ a, a < 0 → ∀ b, b < 0 → a ≠ b → (TJxfd54e a).2.1 ≠ (TJxfd54e b).2.1 := by decide +kernel
theorem tyJxfd54e_ok : ∀ k, k < 0 → parseFieldDescriptor (TJxfd54e k).2.2.1 = some (tyJxfd54e k) := by decide +kernel
def RJx3cf43 : String := "java/lang/constant/ConstantDesc"
def TJx3cf43 : u_T := fun k => match k with
  | _ => ("", "", "", false)
def tyJx3cf43 : Nat → FieldType := fun k => match k with
  | _ => .int
abbrev wsJx3cf430 : List Cond := u_ws RJx3cf43 TJx3cf43 0
theorem nmJx3cf43 : ∀ a, a < 0 → ∀ b, b < 0 → a ≠ b → (TJx3cf43 a).2.1 ≠ (TJx3cf43 b).2.1 := by decide +kernel
theorem tyJx3cf43_ok : ∀ k, k < 0 → parseFieldDescriptor (TJx3cf43 k).2.2.1 = some (tyJx3cf43 k) := by decide +kernel
def RJ7 : String := "java/util/Arrays"
def TJ7 : u_T := fun k => match k with
  | _ => ("", "", "", false)
def tyJ7 : Nat → FieldType := fun k => match k with
  | _ => .int
abbrev wsJ70 : List Cond := u_ws RJ7 TJ7 0
theorem nmJ7 : ∀ a, a < 0 → ∀ b, b < 0 → a ≠ b → (TJ7 a).2.1 ≠ (TJ7 b).2.1 := by decide +kernel
theorem tyJ7_ok : ∀ k, k < 0 → parseFieldDescriptor (TJ7 k).2.2.1 = some (tyJ7 k) := by decide +kernel
abbrev cJ7_fill_53178 : ByteArray := prog_21_method_103_code
def yJ7_fill_53178 : MethodName := ⟨RJ7, "fill", "([II)V"⟩
def RJ3 : String := "jdk/internal/util/Preconditions"
def TJ3 : u_T := fun k => match k with
  | _ => ("", "", "", false)
def tyJ3 : Nat → FieldType := fun k => match k with
  | _ => .int
abbrev wsJ30 : List Cond := u_ws RJ3 TJ3 0
theorem nmJ3 : ∀ a, a < 0 → ∀ b, b < 0 → a ≠ b → (TJ3 a).2.1 ≠ (TJ3 b).2.1 := by decide +kernel
theorem tyJ3_ok : ∀ k, k < 0 → parseFieldDescriptor (TJ3 k).2.2.1 = some (tyJ3 k) := by decide +kernel
abbrev cJ3_checkIndex_8e157 : ByteArray := prog_22_method_11_code
def yJ3_checkIndex_8e157 : MethodName := ⟨RJ3, "checkIndex", "(IILjava/util/function/BiFunction;)I"⟩
def RL : String := "SightedMonthsLaw"
abbrev cL_law : ByteArray := code
def yL_law : MethodName := ⟨RL, "law", "([I)Z"⟩
abbrev vwCl : List vw_C := [(RX0, TX0, 13), (RX1, TX1, 7), (RX2, TX2, 4), (RX3, TX3, 5), (RX4, TX4, 3), (RX5, TX5, 2), (RX6, TX6, 7), (RX7, TX7, 6), (RX8, TX8, 5), (RX9, TX9, 6), (RX10, TX10, 2), (RX11, TX11, 16), (RX12, TX12, 57)]
end
section
/-! words: of a family's list, of the tables -/
theorem goodIn_app {big a b : List Cond} (ha : GoodIn big a) (hb : GoodIn big b) : GoodIn big (a ++ b) := fun w h => (List.mem_append.mp h).elim (ha w) (hb w)
theorem gz_gP {G : List Cond} {c0 c : Cond} (hc : c ∈ G) (hg : G.all goodWord = true) : GoodIn (c0 :: G) (c :: G) := fun w h => by
  have h1 : w ∈ G := (List.mem_cons.mp h).elim (fun e => e ▸ hc) id
  exact ⟨List.mem_cons_of_mem _ h1, good_of_word (List.all_eq_true.mp hg w h1)⟩
theorem gz_gm {G : List Cond} {c0 c : Cond} (hc : c ∈ G) (hg : G.all goodWord = true) : c ∈ c0 :: G ∧ ((c.onTables && c.keeps) = true ∨ ∃ ty, c = .arrayClass ty) := ⟨List.mem_cons_of_mem _ hc, good_of_word (List.all_eq_true.mp hg c hc)⟩
theorem goodIn_cons {big ws : List Cond} {c : Cond} (h : c ∈ big ∧ ((c.onTables && c.keeps) = true ∨ ∃ ty, c = .arrayClass ty)) (hb : GoodIn big ws) : GoodIn big (c :: ws) := fun w hw => (List.mem_cons.mp hw).elim (fun e => e ▸ h) (hb w)
theorem goodIn_nil {big : List Cond} : GoodIn big [] := fun _ h => absurd h List.not_mem_nil
theorem gz_gV {G : List Cond} {c0 c : Cond} {own C : String} {idx : Nat} {y : MethodName} (h1 : Cond.methodLink own idx y ∈ G) (h2 : Cond.instanceMethod y ∈ G) (h3 : Cond.selects C y y ∈ G) (h4 : Cond.initialized C ∈ G) (hc : c ∈ G) (hg : G.all goodWord = true) : GoodIn (c0 :: G) (wsV own idx C y (c :: G)) :=
  goodIn_app (goodIn_cons (gz_gm h1 hg) (goodIn_cons (gz_gm h2 hg) (goodIn_cons (gz_gm h3 hg) (goodIn_cons (gz_gm h4 hg) goodIn_nil)))) (gz_gP hc hg)
theorem gz_gS {G : List Cond} {c0 c : Cond} {own : String} {idx : Nat} {y : MethodName} (h1 : Cond.methodLink own idx y ∈ G) (h2 : Cond.static y ∈ G) (h4 : Cond.initialized own ∈ G) (hc : c ∈ G) (hg : G.all goodWord = true) : GoodIn (c0 :: G) (wsS own idx y (c :: G)) :=
  goodIn_app (goodIn_cons (gz_gm h1 hg) (goodIn_cons (gz_gm h2 hg) (goodIn_cons (gz_gm h4 hg) goodIn_nil))) (gz_gP hc hg)
theorem gz_lP {G : List Cond} {c : Cond} (hc : c ∈ lw_tbl) (hl : ∀ w ∈ G, w ∈ lw_tbl) (hg : G.all goodWord = true) (hw : goodWord c = true := by rfl) : GoodIn lw_tbl (c :: G) := fun w h => (List.mem_cons.mp h).elim (fun e => e ▸ ⟨hc, good_of_word hw⟩) (fun h1 => ⟨hl w h1, good_of_word (List.all_eq_true.mp hg w h1)⟩)
theorem gz_lV {G : List Cond} {c : Cond} {own C : String} {idx : Nat} {y : MethodName} (h1 : Cond.methodLink own idx y ∈ lw_tbl) (h2 : Cond.instanceMethod y ∈ lw_tbl) (h3 : Cond.selects C y y ∈ lw_tbl) (h4 : Cond.initialized C ∈ lw_tbl) (hc : c ∈ lw_tbl) (hl : ∀ w ∈ G, w ∈ lw_tbl) (hg : G.all goodWord = true) (hw : goodWord c = true := by rfl) : GoodIn lw_tbl (wsV own idx C y (c :: G)) :=
  goodIn_app (goodIn_cons ⟨h1, good_of_word rfl⟩ (goodIn_cons ⟨h2, good_of_word rfl⟩ (goodIn_cons ⟨h3, good_of_word rfl⟩ (goodIn_cons ⟨h4, good_of_word rfl⟩ goodIn_nil)))) (gz_lP hc hl hg hw)
/-! rows of our own that every walk uses -/
theorem gz_topi {p : Program} {l : Launch} {e : Env} {R : Room} {s : State} {m : MethodId} {args : Array Value} {below : List Frame} {meth : Method} {c : Code} {H : Heap} {locs : List Loc} {cells slots : Nat} {Q : State → Prop} {pc : Nat} {ls : Array Slot} {rest : List Value} {x y : Int32} (h : x = y) (k : W p l e R s m args below meth c H locs cells slots Q (F0 m pc ls (.int y :: rest))) : W p l e R s m args below meth c H locs cells slots Q (F0 m pc ls (.int x :: rest)) := h ▸ k
/-- a call that changes nothing: the world stays -/
theorem gz_keep {D : va_G} {cl : List vw_C} {ws : va_W} {H H1 : Heap} (hP : va_P D cl ws H) (hk : ∀ q : Nat, q < H.size → ¬ (fun _ : Nat => False) q → H1[q]? = H[q]?) : va_P D cl ws H1 := by
  intro k q hq
  have h := hP k q hq
  obtain ⟨a, o | o⟩ := q
  · have h : H[a]? = some (vp_cell o.1 o.2) := h
    show H1[a]? = some (vp_cell o.1 o.2)
    rw [hk a (Array.getElem?_eq_some_iff.mp h).1 (fun f => f)]
    exact h
  · obtain ⟨r, h1, h2⟩ := h
    obtain ⟨cell, hc, -⟩ := id h2
    exact ⟨r, h1, h2.kept (hk a (Array.getElem?_eq_some_iff.mp hc).1 (fun f => f))⟩
theorem gz_nle {x : Int32} (h : ¬ x < 0) : 0 ≤ x := Int32.not_lt.mp h
theorem gz_sw (x : Int32) (n : Nat) (hn : n < 2 ^ 31) {N : Int} (hN : N = (n : Int) := by rfl) : (x.toInt < 0 ∨ N < x.toInt) ∨ ∃ j : Nat, j ≤ n ∧ x = nI j := by
  subst hN
  by_cases h : x < 0
  · exact Or.inl (Or.inl (by simpa [Int32.lt_iff_toInt_lt] using h))
  · obtain ⟨j, hj, rfl⟩ := nI_of h
    by_cases hjn : j ≤ n
    · exact Or.inr ⟨j, hjn, rfl⟩
    · refine Or.inl (Or.inr ?_)
      rw [nI_toInt hj]
      omega
def gz_fault (x : Int32) : Int32 := if x = 0 then 0 else (-1)
def gz_count (x : Int32) : Int32 := if 0 ≤ x.toInt ∧ x.toInt ≤ 10 then 0 else (-1)
theorem gz_count_out {x : Int32} (h : x.toInt < 0 ∨ 10 < x.toInt) : (-1) = gz_count x := by
  unfold gz_count
  rw [if_neg (by omega)]
def gz_in (v lo hi : Int64) : Int32 := if lo ≤ v ∧ v ≤ hi then 1 else 0
theorem gz_in_lt {v lo hi : Int64} (h : lg_cmp v lo < 0) : 0 = gz_in v lo hi := by
  have h1 : v < lo := (lg_cmp_lt v lo).mp h
  unfold gz_in
  rw [if_neg (fun q => absurd (Int64.lt_of_le_of_lt q.1 h1) Int64.lt_irrefl)]
theorem gz_in_gt {v lo hi : Int64} (h : 0 < lg_cmp v hi) : 0 = gz_in v lo hi := by
  have h1 : hi < v := (lg_cmp_gt v hi).mp h
  unfold gz_in
  rw [if_neg (fun q => absurd (Int64.lt_of_le_of_lt q.2 h1) Int64.lt_irrefl)]
theorem gz_in_yes {v lo hi : Int64} (h : ¬ lg_cmp v lo < 0) (h2 : ¬ 0 < lg_cmp v hi) : 1 = gz_in v lo hi := by
  have h1 : lo ≤ v := Int64.not_lt.mp (fun q => h ((lg_cmp_lt v lo).mpr q))
  have h3 : v ≤ hi := Int64.not_lt.mp (fun q => h2 ((lg_cmp_gt v hi).mpr q))
  unfold gz_in
  rw [if_pos ⟨h1, h3⟩]
theorem gz_in_none (v : Int64) : gz_in v 0 (-1) = 0 := by
  unfold gz_in
  rw [if_neg (fun q => absurd (Int64.le_trans q.1 q.2) (by decide))]
theorem gz_P0 {D : va_G} {cl : List vw_C} {H : Heap} : va_P D cl [] H := fun k q h => by simp at h
theorem gz_D0 {A : Nat → Prop} : va_D A [] := ⟨fun i j p q h => by simp at h, fun k q h => by simp at h⟩
theorem gz_upd0z (k : Nat) : upd (fun _ => 0) k (vp_nar .boolean 0) = (fun _ => 0) := by
  funext j
  unfold upd
  split
  · rfl
  · rfl
def gz_end (x : Int32) : Int32 := if x = 0 then 0 else (-1)
theorem gz_end_neg {x : Int32} (h : x < 0) : (-1) = gz_end x := by
  unfold gz_end
  rw [if_neg (fun q => by rw [q] at h; exact absurd h (by decide))]
theorem gz_end_pos {x : Int32} (h : ¬ x ≤ 0) : (-1) = gz_end x := by
  unfold gz_end
  rw [if_neg (fun q => by rw [q] at h; exact absurd (by decide) h)]
theorem gz_z {x : Int32} (h : ¬ x < 0) (h2 : x ≤ 0) : x = 0 := Int32.le_antisymm h2 (Int32.not_lt.mp h)
theorem gz_end_z {x : Int32} (h : ¬ x < 0) (h2 : x ≤ 0) : x = gz_end x := by
  rw [gz_z h h2]
  rfl
theorem gz_in_end (x : Int32) : gz_in x.toInt64 0 0 = if x = 0 then 1 else 0 := by
  unfold gz_in
  by_cases h : x = 0
  · rw [h]
    rfl
  · rw [if_neg h, if_neg]
    intro q
    have h2 : x.toInt64 = 0 := Int64.le_antisymm q.2 q.1
    apply h
    have h3 : x.toInt64.toInt32 = (0 : Int64).toInt32 := by rw [h2]
    simpa using h3
theorem gz_end_in0 {x r : Int32} (hw : r = gz_in x.toInt64 0 0) (h : r = 0) : (-1) = gz_end x := by
  rw [gz_in_end] at hw
  unfold gz_end
  split at hw
  · rw [h] at hw
    exact absurd hw (by decide)
  · rename_i hx
    rw [if_neg hx]
theorem gz_end_in1 {x r : Int32} (hw : r = gz_in x.toInt64 0 0) (h : ¬ r = 0) : x = gz_end x := by
  rw [gz_in_end] at hw
  split at hw
  · rename_i hx
    rw [hx]
    rfl
  · exact absurd hw h
end
section
/-- what a new object of each kind holds (r: where its parts lie) -/
abbrev fsX (r : Nat → Nat) : List Value := [.ref (r 0), .ref (r 1), .ref (r 2), .ref (r 3), .ref (r 4), .ref (r 5), .ref (r 6), .ref (r 7), .ref (r 8), .ref (r 9), .ref (r 10), .int 0, .int 0, .int (-1), .int 0, .int 0]
abbrev fsR (r : Nat → Nat) : List Value := [.ref (r 11), .ref (r 12), .int 0, .int (-1), .int 0, .int 0, .int 0]
abbrev fsT (r : Nat → Nat) : List Value := [.ref (r 13), .int 0]
abbrev fsA (r : Nat → Nat) : List Value := [.int 0, .int 0, .int 0, .int 0, .int 0, .int 0, .int 0, .int 0, .int 0, .int 0, .ref (r 14), .ref (r 15), .ref (r 16)]
abbrev fsD (r : Nat → Nat) : List Value := [.int 0, .int 0, .int 0, .int 0, .int 0, .int 0, .int 0, .int 0, .int 0, .int 0, .ref (r 17), .ref (r 18), .ref (r 19)]
abbrev fsM (r : Nat → Nat) : List Value := [.int 0, .int 0, .int 0, .int 0, .int 0, .int 0, .int 0, .int 0, .ref (r 0), .ref (r 1), .int 0, .ref (r 2), .ref (r 3), .ref (r 4), .ref (r 5), .ref (r 6), .ref (r 7), .int 0, .ref (r 8), .ref (r 9), .ref (r 10), .ref (r 11), .ref (r 12), .int 0, .int 0, .ref (r 13), .int 0, .int 0, .int (-1), .int 0, .int 0, .int 0, .int 0, .int 0, .ref (r 14), .ref (r 15), .ref (r 16), .int 0, .ref (r 17), .ref (r 18), .ref (r 19), .int 0, .int (-1), .int (-1), .int (-1), .int (-1), .ref (r 20), .int 0, .int 0, .int 0, .int 0, .int 0, .ref (r 21), .ref (r 22), .int 0, .ref (r 23), .int 0]
abbrev fsMk (r : Nat → Nat) (ka kp : Int32) : List Value := [.int 0, .int 0, .int 0, .int 0, .int 0, .int 0, .int 0, .int 0, .ref (r 0), .ref (r 1), .int 0, .ref (r 2), .ref (r 3), .ref (r 4), .ref (r 5), .ref (r 6), .ref (r 7), .int 0, .ref (r 8), .ref (r 9), .ref (r 10), .ref (r 11), .ref (r 12), .int ka, .int kp, .ref (r 13), .int 0, .int 0, .int (-1), .int 0, .int 0, .int 0, .int 0, .int 0, .ref (r 14), .ref (r 15), .ref (r 16), .int 0, .ref (r 17), .ref (r 18), .ref (r 19), .int 0, .int (-1), .int (-1), .int (-1), .int (-1), .ref (r 20), .int 0, .int 0, .int 0, .int 0, .int 0, .ref (r 21), .ref (r 22), .int 0, .ref (r 23), .int 0]
theorem dfX3 : ∀ j, j < 5 → defaultValue (tyX3 j) = vp_V [.int 0, .int 0, .int 0, .null, .null] j := by decide +kernel
theorem dfX5 : ∀ j, j < 2 → defaultValue (tyX5 j) = vp_V [.int 0, .int 0] j := by decide +kernel
theorem dfX7 : ∀ j, j < 6 → defaultValue (tyX7 j) = vp_V [.int 0, .int 0, .int 0, .int 0, .int 0, .int 0] j := by decide +kernel
theorem dfX2 : ∀ j, j < 4 → defaultValue (tyX2 j) = vp_V [.int 0, .int 0, .int 0, .int 0] j := by decide +kernel
theorem dfX10 : ∀ j, j < 2 → defaultValue (tyX10 j) = vp_V [.null, .int 0] j := by decide +kernel
theorem dfX0 : ∀ j, j < 13 → defaultValue (tyX0 j) = vp_V [.int 0, .int 0, .int 0, .int 0, .int 0, .int 0, .int 0, .int 0, .int 0, .int 0, .null, .null, .null] j := by decide +kernel
theorem dfX6 : ∀ j, j < 7 → defaultValue (tyX6 j) = vp_V [.null, .null, .int 0, .int 0, .int 0, .int 0, .int 0] j := by decide +kernel
theorem dfX1 : ∀ j, j < 7 → defaultValue (tyX1 j) = vp_V [.null, .null, .null, .null, .null, .int 0, .int 0] j := by decide +kernel
theorem dfX9 : ∀ j, j < 6 → defaultValue (tyX9 j) = vp_V [.null, .null, .null, .int 0, .int 0, .int 0] j := by decide +kernel
theorem dfX8 : ∀ j, j < 5 → defaultValue (tyX8 j) = vp_V [.null, .null, .int 0, .int 0, .int 0] j := by decide +kernel
theorem dfX4 : ∀ j, j < 3 → defaultValue (tyX4 j) = vp_V [.null, .null, .int 0] j := by decide +kernel
end
section
set_option maxRecDepth 100000 in
def wsGA : List Cond := [Cond.fieldLink RX11 19 "SightedMonths" "almanac" "LSightedMonths$Almanac;", Cond.fieldLink RX11 120 "SightedMonths$Almanac" "months" "I", Cond.code yX11_isTold cX11_isTold 1 (some .boolean), Cond.methodLink RX11 395 yX11_isTold, Cond.instanceMethod yX11_isTold, Cond.selects RX11 yX11_isTold yX11_isTold, Cond.initialized RX11, Cond.fieldLink RX11 129 "SightedMonths$Almanac" "placeCount" "I", Cond.fieldLink RX11 132 "SightedMonths$Almanac" "reportCount" "I", Cond.fieldLink RX11 135 "SightedMonths$Almanac" "deedCount" "I", Cond.code yX11_hasPlace cX11_hasPlace 2 (some .boolean), Cond.methodLink RX11 144 yX11_hasPlace, Cond.instanceMethod yX11_hasPlace, Cond.selects RX11 yX11_hasPlace yX11_hasPlace, Cond.code yX11_hasReport cX11_hasReport 2 (some .boolean), Cond.methodLink RX11 164 yX11_hasReport, Cond.instanceMethod yX11_hasReport, Cond.selects RX11 yX11_hasReport yX11_hasReport, Cond.code yX11_hasDeed cX11_hasDeed 2 (some .boolean), Cond.methodLink RX11 191 yX11_hasDeed, Cond.instanceMethod yX11_hasDeed, Cond.selects RX11 yX11_hasDeed yX11_hasDeed, Cond.fieldLink RX11 206 "SightedMonths$Almanac" "hasMoon" "Z", Cond.code yX11_hasTime cX11_hasTime 2 (some .boolean), Cond.methodLink RX11 216 yX11_hasTime, Cond.instanceMethod yX11_hasTime, Cond.selects RX11 yX11_hasTime yX11_hasTime, Cond.code yX11_hasMonth cX11_hasMonth 4 (some .boolean), Cond.methodLink RX11 209 yX11_hasMonth, Cond.instanceMethod yX11_hasMonth, Cond.selects RX11 yX11_hasMonth yX11_hasMonth, Cond.fieldLink RX11 12 "SightedMonths" "reader" "LSightedMonths$Reader;", Cond.fieldLink RX11 117 "SightedMonths$Reader" "faultPlace" "I", Cond.fieldLink RX11 105 "SightedMonths$Reader" "faultKind" "I", Cond.fieldLink RX11 123 "SightedMonths$Almanac" "full" "I", Cond.fieldLink RX11 126 "SightedMonths$Almanac" "lean" "I", Cond.fieldLink RX11 114 "SightedMonths$Almanac" "lines" "I", Cond.fieldLink RX11 89 "SightedMonths$Reader" "tape" "LSightedMonths$Tape;", Cond.fieldLink RX11 93 "SightedMonths$Tape" "length" "I", Cond.fieldLink RX11 72 "SightedMonths" "outLength" "I", Cond.fieldLink RX11 138 "SightedMonths$Almanac" "moonStart" "I", Cond.fieldLink RX11 141 "SightedMonths$Almanac" "moonStep" "I", Cond.methodLink RX5 1 objectInit, Cond.instanceMethod objectInit, Cond.code objectInit ⟨#[0xb1]⟩ 1 none, Cond.methodLink RX7 1 objectInit, Cond.methodLink RX2 1 objectInit, Cond.methodLink RX3 3 objectInit, Cond.arrayClass .int, Cond.fieldLink RX3 9 "SightedMonths$Frame" "allowed" "[I", Cond.fieldLink RX3 15 "SightedMonths$Frame" "onward" "[I", Cond.methodLink RX9 3 objectInit, Cond.fieldLink RX9 9 "SightedMonths$Tally" "before" "[I", Cond.fieldLink RX9 15 "SightedMonths$Tally" "behind" "[I", Cond.fieldLink RX9 18 "SightedMonths$Tally" "starts" "[I", Cond.methodLink RX8 3 objectInit, Cond.fieldLink RX8 9 "SightedMonths$Search" "costs" "[I", Cond.fieldLink RX8 15 "SightedMonths$Search" "leasts" "[I", Cond.methodLink RX4 3 objectInit, Cond.fieldLink RX4 11 "SightedMonths$History" "since" "[I", Cond.fieldLink RX4 15 "SightedMonths$History" "begins" "[I", Cond.fieldLink RX4 18 "SightedMonths$History" "eras" "I", Cond.methodLink RX1 3 objectInit, Cond.classLink RX1 9 RX3, Cond.instantiable RX3 5, Cond.initialized RX3, Cond.code yX3_init cX3_init 1 none, Cond.instanceMethod yX3_init, Cond.fieldLink RX1 12 "SightedMonths$Court" "frame" "LSightedMonths$Frame;", Cond.fieldLink RX1 18 "SightedMonths$Court" "verdicts" "[I", Cond.fieldLink RX1 22 "SightedMonths$Court" "queue" "[I", Cond.arrayClass .long, Cond.fieldLink RX1 25 "SightedMonths$Court" "turns" "[J", Cond.fieldLink RX1 29 "SightedMonths$Court" "begins" "[I", Cond.fieldLink RX1 32 "SightedMonths$Court" "queueLength" "I", Cond.fieldLink RX1 36 "SightedMonths$Court" "takenBits" "I", Cond.methodLink RX10 3 objectInit, Cond.arrayClass .byte, Cond.fieldLink RX10 9 "SightedMonths$Tape" "bytes" "[B", Cond.fieldLink RX10 15 "SightedMonths$Tape" "length" "I", Cond.methodLink RX0 3 objectInit, Cond.classLink RX0 9 RX5, Cond.fieldLink RX0 11 "SightedMonths$Almanac" "places" "[LSightedMonths$Place;", Cond.classLink RX0 17 RX7, Cond.fieldLink RX0 19 "SightedMonths$Almanac" "reports" "[LSightedMonths$Report;", Cond.classLink RX0 23 RX2, Cond.fieldLink RX0 25 "SightedMonths$Almanac" "deeds" "[LSightedMonths$Deed;", Cond.instantiable RX5 2, Cond.initialized RX5, Cond.code yX5_init cX5_init 1 none, Cond.instanceMethod yX5_init, Cond.instantiable RX7 6, Cond.initialized RX7, Cond.code yX7_init cX7_init 1 none, Cond.instanceMethod yX7_init, Cond.instantiable RX2 4, Cond.initialized RX2, Cond.code yX2_init cX2_init 1 none, Cond.instanceMethod yX2_init, Cond.methodLink RX6 3 objectInit, Cond.classLink RX6 9 RX10, Cond.instantiable RX10 2, Cond.initialized RX10, Cond.code yX10_init cX10_init 1 none, Cond.instanceMethod yX10_init, Cond.fieldLink RX6 12 "SightedMonths$Reader" "tape" "LSightedMonths$Tape;", Cond.classLink RX6 18 RX0, Cond.instantiable RX0 13, Cond.initialized RX0, Cond.code yX0_init cX0_init 2 none, Cond.methodLink RX6 20 yX0_init, Cond.instanceMethod yX0_init, Cond.fieldLink RX6 21 "SightedMonths$Reader" "draft" "LSightedMonths$Almanac;", Cond.fieldLink RX6 25 "SightedMonths$Reader" "faultKind" "I", Cond.fieldLink RX6 29 "SightedMonths$Reader" "faultPlace" "I", Cond.fieldLink RX6 32 "SightedMonths$Reader" "token" "I", Cond.fieldLink RX6 35 "SightedMonths$Reader" "start" "I", Cond.fieldLink RX6 38 "SightedMonths$Reader" "stop" "I", Cond.methodLink RX11 3 objectInit, Cond.classLink RX11 9 RX6, Cond.instantiable RX6 7, Cond.initialized RX6, Cond.code yX6_init cX6_init 1 none, Cond.instanceMethod yX6_init, Cond.classLink RX11 16 RX0, Cond.methodLink RX11 18 yX0_init, Cond.fieldLink RX11 23 "SightedMonths" "spare" "LSightedMonths$Almanac;", Cond.classLink RX11 26 RX3, Cond.fieldLink RX11 29 "SightedMonths" "freeFrame" "LSightedMonths$Frame;", Cond.classLink RX11 33 RX1, Cond.instantiable RX1 7, Cond.initialized RX1, Cond.code yX1_init cX1_init 1 none, Cond.instanceMethod yX1_init, Cond.fieldLink RX11 36 "SightedMonths" "court" "LSightedMonths$Court;", Cond.fieldLink RX11 40 "SightedMonths" "otherCourt" "LSightedMonths$Court;", Cond.classLink RX11 43 RX9, Cond.instantiable RX9 6, Cond.initialized RX9, Cond.code yX9_init cX9_init 1 none, Cond.instanceMethod yX9_init, Cond.fieldLink RX11 46 "SightedMonths" "tally" "LSightedMonths$Tally;", Cond.classLink RX11 50 RX8, Cond.instantiable RX8 5, Cond.initialized RX8, Cond.code yX8_init cX8_init 1 none, Cond.instanceMethod yX8_init, Cond.fieldLink RX11 53 "SightedMonths" "search" "LSightedMonths$Search;", Cond.classLink RX11 57 RX4, Cond.instantiable RX4 3, Cond.initialized RX4, Cond.code yX4_init cX4_init 1 none, Cond.instanceMethod yX4_init, Cond.fieldLink RX11 60 "SightedMonths" "history" "LSightedMonths$History;", Cond.fieldLink RX11 64 "SightedMonths" "kept" "[I", Cond.fieldLink RX11 68 "SightedMonths" "out" "[B", Cond.fieldLink RX11 76 "SightedMonths" "courtStands" "Z", Cond.fieldLink RX11 80 "SightedMonths" "courtNews" "I", Cond.fieldLink RX11 83 "SightedMonths" "tallyStands" "Z", Cond.fieldLink RX11 86 "SightedMonths" "historyStands" "Z", Cond.code yX10_put cX10_put 2 none, Cond.methodLink RX11 98 yX10_put, Cond.instanceMethod yX10_put, Cond.selects RX10 yX10_put yX10_put, Cond.fieldLink RX0 32 "SightedMonths$Almanac" "months" "I", Cond.fieldLink RX0 36 "SightedMonths$Almanac" "full" "I", Cond.fieldLink RX0 39 "SightedMonths$Almanac" "lean" "I", Cond.fieldLink RX0 42 "SightedMonths$Almanac" "lines" "I", Cond.fieldLink RX0 45 "SightedMonths$Almanac" "hasMoon" "Z", Cond.fieldLink RX0 49 "SightedMonths$Almanac" "moonStart" "I", Cond.fieldLink RX0 52 "SightedMonths$Almanac" "moonStep" "I", Cond.fieldLink RX0 55 "SightedMonths$Almanac" "placeCount" "I", Cond.fieldLink RX0 58 "SightedMonths$Almanac" "reportCount" "I", Cond.fieldLink RX0 61 "SightedMonths$Almanac" "deedCount" "I", Cond.fieldLink RX6 205 "SightedMonths$Tape" "length" "I", Cond.code yX6_byteAt cX6_byteAt 2 (some .int), Cond.methodLink RX6 181 yX6_byteAt, Cond.instanceMethod yX6_byteAt, Cond.selects RX6 yX6_byteAt yX6_byteAt, Cond.code yX0_wipe cX0_wipe 1 none, Cond.methodLink RX6 41 yX0_wipe, Cond.instanceMethod yX0_wipe, Cond.selects RX0 yX0_wipe yX0_wipe, Cond.code yX6_step cX6_step 2 none, Cond.methodLink RX6 44 yX6_step, Cond.instanceMethod yX6_step, Cond.selects RX6 yX6_step yX6_step, Cond.code yX6_read cX6_read 2 none, Cond.methodLink RX11 102 yX6_read, Cond.instanceMethod yX6_read, Cond.selects RX6 yX6_read yX6_read, Cond.fieldLink RX11 108 "SightedMonths$Reader" "draft" "LSightedMonths$Almanac;", Cond.code yX11_forget cX11_forget 1 none, Cond.methodLink RX11 111 yX11_forget, Cond.instanceMethod yX11_forget, Cond.selects RX11 yX11_forget yX11_forget] ++ wsX110 ++ wsX00 ++ wsX60 ++ wsX100 ++ wsX30 ++ wsX90 ++ wsX80 ++ wsX40 ++ wsX10 ++ wsX50 ++ wsX70 ++ wsX20
theorem mGA_0 : Cond.fieldLink RX11 19 "SightedMonths" "almanac" "LSightedMonths$Almanac;" ∈ wsGA := List.mem_of_getElem? (i := 0) (by decide +kernel)
theorem mGA_1 : Cond.fieldLink RX11 120 "SightedMonths$Almanac" "months" "I" ∈ wsGA := List.mem_of_getElem? (i := 1) (by decide +kernel)
theorem mGA_2 : Cond.code yX11_isTold cX11_isTold 1 (some .boolean) ∈ wsGA := List.mem_of_getElem? (i := 2) (by decide +kernel)
theorem mGA_3 : Cond.methodLink RX11 395 yX11_isTold ∈ wsGA := List.mem_of_getElem? (i := 3) (by decide +kernel)
theorem mGA_4 : Cond.instanceMethod yX11_isTold ∈ wsGA := List.mem_of_getElem? (i := 4) (by decide +kernel)
theorem mGA_5 : Cond.selects RX11 yX11_isTold yX11_isTold ∈ wsGA := List.mem_of_getElem? (i := 5) (by decide +kernel)
theorem mGA_6 : Cond.initialized RX11 ∈ wsGA := List.mem_of_getElem? (i := 6) (by decide +kernel)
theorem mGA_7 : Cond.fieldLink RX11 129 "SightedMonths$Almanac" "placeCount" "I" ∈ wsGA := List.mem_of_getElem? (i := 7) (by decide +kernel)
theorem mGA_8 : Cond.fieldLink RX11 132 "SightedMonths$Almanac" "reportCount" "I" ∈ wsGA := List.mem_of_getElem? (i := 8) (by decide +kernel)
theorem mGA_9 : Cond.fieldLink RX11 135 "SightedMonths$Almanac" "deedCount" "I" ∈ wsGA := List.mem_of_getElem? (i := 9) (by decide +kernel)
theorem mGA_10 : Cond.code yX11_hasPlace cX11_hasPlace 2 (some .boolean) ∈ wsGA := List.mem_of_getElem? (i := 10) (by decide +kernel)
theorem mGA_11 : Cond.methodLink RX11 144 yX11_hasPlace ∈ wsGA := List.mem_of_getElem? (i := 11) (by decide +kernel)
theorem mGA_12 : Cond.instanceMethod yX11_hasPlace ∈ wsGA := List.mem_of_getElem? (i := 12) (by decide +kernel)
theorem mGA_13 : Cond.selects RX11 yX11_hasPlace yX11_hasPlace ∈ wsGA := List.mem_of_getElem? (i := 13) (by decide +kernel)
theorem mGA_14 : Cond.code yX11_hasReport cX11_hasReport 2 (some .boolean) ∈ wsGA := List.mem_of_getElem? (i := 14) (by decide +kernel)
theorem mGA_15 : Cond.methodLink RX11 164 yX11_hasReport ∈ wsGA := List.mem_of_getElem? (i := 15) (by decide +kernel)
theorem mGA_16 : Cond.instanceMethod yX11_hasReport ∈ wsGA := List.mem_of_getElem? (i := 16) (by decide +kernel)
theorem mGA_17 : Cond.selects RX11 yX11_hasReport yX11_hasReport ∈ wsGA := List.mem_of_getElem? (i := 17) (by decide +kernel)
theorem mGA_18 : Cond.code yX11_hasDeed cX11_hasDeed 2 (some .boolean) ∈ wsGA := List.mem_of_getElem? (i := 18) (by decide +kernel)
theorem mGA_19 : Cond.methodLink RX11 191 yX11_hasDeed ∈ wsGA := List.mem_of_getElem? (i := 19) (by decide +kernel)
theorem mGA_20 : Cond.instanceMethod yX11_hasDeed ∈ wsGA := List.mem_of_getElem? (i := 20) (by decide +kernel)
theorem mGA_21 : Cond.selects RX11 yX11_hasDeed yX11_hasDeed ∈ wsGA := List.mem_of_getElem? (i := 21) (by decide +kernel)
theorem mGA_22 : Cond.fieldLink RX11 206 "SightedMonths$Almanac" "hasMoon" "Z" ∈ wsGA := List.mem_of_getElem? (i := 22) (by decide +kernel)
theorem mGA_23 : Cond.code yX11_hasTime cX11_hasTime 2 (some .boolean) ∈ wsGA := List.mem_of_getElem? (i := 23) (by decide +kernel)
theorem mGA_24 : Cond.methodLink RX11 216 yX11_hasTime ∈ wsGA := List.mem_of_getElem? (i := 24) (by decide +kernel)
theorem mGA_25 : Cond.instanceMethod yX11_hasTime ∈ wsGA := List.mem_of_getElem? (i := 25) (by decide +kernel)
theorem mGA_26 : Cond.selects RX11 yX11_hasTime yX11_hasTime ∈ wsGA := List.mem_of_getElem? (i := 26) (by decide +kernel)
theorem mGA_27 : Cond.code yX11_hasMonth cX11_hasMonth 4 (some .boolean) ∈ wsGA := List.mem_of_getElem? (i := 27) (by decide +kernel)
theorem mGA_28 : Cond.methodLink RX11 209 yX11_hasMonth ∈ wsGA := List.mem_of_getElem? (i := 28) (by decide +kernel)
theorem mGA_29 : Cond.instanceMethod yX11_hasMonth ∈ wsGA := List.mem_of_getElem? (i := 29) (by decide +kernel)
theorem mGA_30 : Cond.selects RX11 yX11_hasMonth yX11_hasMonth ∈ wsGA := List.mem_of_getElem? (i := 30) (by decide +kernel)
theorem mGA_31 : Cond.fieldLink RX11 12 "SightedMonths" "reader" "LSightedMonths$Reader;" ∈ wsGA := List.mem_of_getElem? (i := 31) (by decide +kernel)
theorem mGA_32 : Cond.fieldLink RX11 117 "SightedMonths$Reader" "faultPlace" "I" ∈ wsGA := List.mem_of_getElem? (i := 32) (by decide +kernel)
theorem mGA_33 : Cond.fieldLink RX11 105 "SightedMonths$Reader" "faultKind" "I" ∈ wsGA := List.mem_of_getElem? (i := 33) (by decide +kernel)
theorem mGA_34 : Cond.fieldLink RX11 123 "SightedMonths$Almanac" "full" "I" ∈ wsGA := List.mem_of_getElem? (i := 34) (by decide +kernel)
theorem mGA_35 : Cond.fieldLink RX11 126 "SightedMonths$Almanac" "lean" "I" ∈ wsGA := List.mem_of_getElem? (i := 35) (by decide +kernel)
theorem mGA_36 : Cond.fieldLink RX11 114 "SightedMonths$Almanac" "lines" "I" ∈ wsGA := List.mem_of_getElem? (i := 36) (by decide +kernel)
theorem mGA_37 : Cond.fieldLink RX11 89 "SightedMonths$Reader" "tape" "LSightedMonths$Tape;" ∈ wsGA := List.mem_of_getElem? (i := 37) (by decide +kernel)
theorem mGA_38 : Cond.fieldLink RX11 93 "SightedMonths$Tape" "length" "I" ∈ wsGA := List.mem_of_getElem? (i := 38) (by decide +kernel)
theorem mGA_39 : Cond.fieldLink RX11 72 "SightedMonths" "outLength" "I" ∈ wsGA := List.mem_of_getElem? (i := 39) (by decide +kernel)
theorem mGA_40 : Cond.fieldLink RX11 138 "SightedMonths$Almanac" "moonStart" "I" ∈ wsGA := List.mem_of_getElem? (i := 40) (by decide +kernel)
theorem mGA_41 : Cond.fieldLink RX11 141 "SightedMonths$Almanac" "moonStep" "I" ∈ wsGA := List.mem_of_getElem? (i := 41) (by decide +kernel)
theorem mGA_42 : Cond.methodLink RX5 1 objectInit ∈ wsGA := List.mem_of_getElem? (i := 42) (by decide +kernel)
theorem mGA_43 : Cond.instanceMethod objectInit ∈ wsGA := List.mem_of_getElem? (i := 43) (by decide +kernel)
theorem mGA_44 : Cond.code objectInit ⟨#[0xb1]⟩ 1 none ∈ wsGA := List.mem_of_getElem? (i := 44) (by decide +kernel)
theorem mGA_45 : Cond.methodLink RX7 1 objectInit ∈ wsGA := List.mem_of_getElem? (i := 45) (by decide +kernel)
theorem mGA_46 : Cond.methodLink RX2 1 objectInit ∈ wsGA := List.mem_of_getElem? (i := 46) (by decide +kernel)
theorem mGA_47 : Cond.methodLink RX3 3 objectInit ∈ wsGA := List.mem_of_getElem? (i := 47) (by decide +kernel)
theorem mGA_48 : Cond.arrayClass .int ∈ wsGA := List.mem_of_getElem? (i := 48) (by decide +kernel)
theorem mGA_49 : Cond.fieldLink RX3 9 "SightedMonths$Frame" "allowed" "[I" ∈ wsGA := List.mem_of_getElem? (i := 49) (by decide +kernel)
theorem mGA_50 : Cond.fieldLink RX3 15 "SightedMonths$Frame" "onward" "[I" ∈ wsGA := List.mem_of_getElem? (i := 50) (by decide +kernel)
theorem mGA_51 : Cond.methodLink RX9 3 objectInit ∈ wsGA := List.mem_of_getElem? (i := 51) (by decide +kernel)
theorem mGA_52 : Cond.fieldLink RX9 9 "SightedMonths$Tally" "before" "[I" ∈ wsGA := List.mem_of_getElem? (i := 52) (by decide +kernel)
theorem mGA_53 : Cond.fieldLink RX9 15 "SightedMonths$Tally" "behind" "[I" ∈ wsGA := List.mem_of_getElem? (i := 53) (by decide +kernel)
theorem mGA_54 : Cond.fieldLink RX9 18 "SightedMonths$Tally" "starts" "[I" ∈ wsGA := List.mem_of_getElem? (i := 54) (by decide +kernel)
theorem mGA_55 : Cond.methodLink RX8 3 objectInit ∈ wsGA := List.mem_of_getElem? (i := 55) (by decide +kernel)
theorem mGA_56 : Cond.fieldLink RX8 9 "SightedMonths$Search" "costs" "[I" ∈ wsGA := List.mem_of_getElem? (i := 56) (by decide +kernel)
theorem mGA_57 : Cond.fieldLink RX8 15 "SightedMonths$Search" "leasts" "[I" ∈ wsGA := List.mem_of_getElem? (i := 57) (by decide +kernel)
theorem mGA_58 : Cond.methodLink RX4 3 objectInit ∈ wsGA := List.mem_of_getElem? (i := 58) (by decide +kernel)
theorem mGA_59 : Cond.fieldLink RX4 11 "SightedMonths$History" "since" "[I" ∈ wsGA := List.mem_of_getElem? (i := 59) (by decide +kernel)
theorem mGA_60 : Cond.fieldLink RX4 15 "SightedMonths$History" "begins" "[I" ∈ wsGA := List.mem_of_getElem? (i := 60) (by decide +kernel)
theorem mGA_61 : Cond.fieldLink RX4 18 "SightedMonths$History" "eras" "I" ∈ wsGA := List.mem_of_getElem? (i := 61) (by decide +kernel)
theorem mGA_62 : Cond.methodLink RX1 3 objectInit ∈ wsGA := List.mem_of_getElem? (i := 62) (by decide +kernel)
theorem mGA_63 : Cond.classLink RX1 9 RX3 ∈ wsGA := List.mem_of_getElem? (i := 63) (by decide +kernel)
theorem mGA_64 : Cond.instantiable RX3 5 ∈ wsGA := List.mem_of_getElem? (i := 64) (by decide +kernel)
theorem mGA_65 : Cond.initialized RX3 ∈ wsGA := List.mem_of_getElem? (i := 65) (by decide +kernel)
theorem mGA_66 : Cond.code yX3_init cX3_init 1 none ∈ wsGA := List.mem_of_getElem? (i := 66) (by decide +kernel)
theorem mGA_67 : Cond.instanceMethod yX3_init ∈ wsGA := List.mem_of_getElem? (i := 67) (by decide +kernel)
theorem mGA_68 : Cond.fieldLink RX1 12 "SightedMonths$Court" "frame" "LSightedMonths$Frame;" ∈ wsGA := List.mem_of_getElem? (i := 68) (by decide +kernel)
theorem mGA_69 : Cond.fieldLink RX1 18 "SightedMonths$Court" "verdicts" "[I" ∈ wsGA := List.mem_of_getElem? (i := 69) (by decide +kernel)
theorem mGA_70 : Cond.fieldLink RX1 22 "SightedMonths$Court" "queue" "[I" ∈ wsGA := List.mem_of_getElem? (i := 70) (by decide +kernel)
theorem mGA_71 : Cond.arrayClass .long ∈ wsGA := List.mem_of_getElem? (i := 71) (by decide +kernel)
theorem mGA_72 : Cond.fieldLink RX1 25 "SightedMonths$Court" "turns" "[J" ∈ wsGA := List.mem_of_getElem? (i := 72) (by decide +kernel)
theorem mGA_73 : Cond.fieldLink RX1 29 "SightedMonths$Court" "begins" "[I" ∈ wsGA := List.mem_of_getElem? (i := 73) (by decide +kernel)
theorem mGA_74 : Cond.fieldLink RX1 32 "SightedMonths$Court" "queueLength" "I" ∈ wsGA := List.mem_of_getElem? (i := 74) (by decide +kernel)
theorem mGA_75 : Cond.fieldLink RX1 36 "SightedMonths$Court" "takenBits" "I" ∈ wsGA := List.mem_of_getElem? (i := 75) (by decide +kernel)
theorem mGA_76 : Cond.methodLink RX10 3 objectInit ∈ wsGA := List.mem_of_getElem? (i := 76) (by decide +kernel)
theorem mGA_77 : Cond.arrayClass .byte ∈ wsGA := List.mem_of_getElem? (i := 77) (by decide +kernel)
theorem mGA_78 : Cond.fieldLink RX10 9 "SightedMonths$Tape" "bytes" "[B" ∈ wsGA := List.mem_of_getElem? (i := 78) (by decide +kernel)
theorem mGA_79 : Cond.fieldLink RX10 15 "SightedMonths$Tape" "length" "I" ∈ wsGA := List.mem_of_getElem? (i := 79) (by decide +kernel)
theorem mGA_80 : Cond.methodLink RX0 3 objectInit ∈ wsGA := List.mem_of_getElem? (i := 80) (by decide +kernel)
theorem mGA_81 : Cond.classLink RX0 9 RX5 ∈ wsGA := List.mem_of_getElem? (i := 81) (by decide +kernel)
theorem mGA_82 : Cond.fieldLink RX0 11 "SightedMonths$Almanac" "places" "[LSightedMonths$Place;" ∈ wsGA := List.mem_of_getElem? (i := 82) (by decide +kernel)
theorem mGA_83 : Cond.classLink RX0 17 RX7 ∈ wsGA := List.mem_of_getElem? (i := 83) (by decide +kernel)
theorem mGA_84 : Cond.fieldLink RX0 19 "SightedMonths$Almanac" "reports" "[LSightedMonths$Report;" ∈ wsGA := List.mem_of_getElem? (i := 84) (by decide +kernel)
theorem mGA_85 : Cond.classLink RX0 23 RX2 ∈ wsGA := List.mem_of_getElem? (i := 85) (by decide +kernel)
theorem mGA_86 : Cond.fieldLink RX0 25 "SightedMonths$Almanac" "deeds" "[LSightedMonths$Deed;" ∈ wsGA := List.mem_of_getElem? (i := 86) (by decide +kernel)
theorem mGA_87 : Cond.instantiable RX5 2 ∈ wsGA := List.mem_of_getElem? (i := 87) (by decide +kernel)
theorem mGA_88 : Cond.initialized RX5 ∈ wsGA := List.mem_of_getElem? (i := 88) (by decide +kernel)
theorem mGA_89 : Cond.code yX5_init cX5_init 1 none ∈ wsGA := List.mem_of_getElem? (i := 89) (by decide +kernel)
theorem mGA_90 : Cond.instanceMethod yX5_init ∈ wsGA := List.mem_of_getElem? (i := 90) (by decide +kernel)
theorem mGA_91 : Cond.instantiable RX7 6 ∈ wsGA := List.mem_of_getElem? (i := 91) (by decide +kernel)
theorem mGA_92 : Cond.initialized RX7 ∈ wsGA := List.mem_of_getElem? (i := 92) (by decide +kernel)
theorem mGA_93 : Cond.code yX7_init cX7_init 1 none ∈ wsGA := List.mem_of_getElem? (i := 93) (by decide +kernel)
theorem mGA_94 : Cond.instanceMethod yX7_init ∈ wsGA := List.mem_of_getElem? (i := 94) (by decide +kernel)
theorem mGA_95 : Cond.instantiable RX2 4 ∈ wsGA := List.mem_of_getElem? (i := 95) (by decide +kernel)
theorem mGA_96 : Cond.initialized RX2 ∈ wsGA := List.mem_of_getElem? (i := 96) (by decide +kernel)
theorem mGA_97 : Cond.code yX2_init cX2_init 1 none ∈ wsGA := List.mem_of_getElem? (i := 97) (by decide +kernel)
theorem mGA_98 : Cond.instanceMethod yX2_init ∈ wsGA := List.mem_of_getElem? (i := 98) (by decide +kernel)
theorem mGA_99 : Cond.methodLink RX6 3 objectInit ∈ wsGA := List.mem_of_getElem? (i := 99) (by decide +kernel)
theorem mGA_100 : Cond.classLink RX6 9 RX10 ∈ wsGA := List.mem_of_getElem? (i := 100) (by decide +kernel)
theorem mGA_101 : Cond.instantiable RX10 2 ∈ wsGA := List.mem_of_getElem? (i := 101) (by decide +kernel)
theorem mGA_102 : Cond.initialized RX10 ∈ wsGA := List.mem_of_getElem? (i := 102) (by decide +kernel)
theorem mGA_103 : Cond.code yX10_init cX10_init 1 none ∈ wsGA := List.mem_of_getElem? (i := 103) (by decide +kernel)
theorem mGA_104 : Cond.instanceMethod yX10_init ∈ wsGA := List.mem_of_getElem? (i := 104) (by decide +kernel)
theorem mGA_105 : Cond.fieldLink RX6 12 "SightedMonths$Reader" "tape" "LSightedMonths$Tape;" ∈ wsGA := List.mem_of_getElem? (i := 105) (by decide +kernel)
theorem mGA_106 : Cond.classLink RX6 18 RX0 ∈ wsGA := List.mem_of_getElem? (i := 106) (by decide +kernel)
theorem mGA_107 : Cond.instantiable RX0 13 ∈ wsGA := List.mem_of_getElem? (i := 107) (by decide +kernel)
theorem mGA_108 : Cond.initialized RX0 ∈ wsGA := List.mem_of_getElem? (i := 108) (by decide +kernel)
theorem mGA_109 : Cond.code yX0_init cX0_init 2 none ∈ wsGA := List.mem_of_getElem? (i := 109) (by decide +kernel)
theorem mGA_110 : Cond.methodLink RX6 20 yX0_init ∈ wsGA := List.mem_of_getElem? (i := 110) (by decide +kernel)
theorem mGA_111 : Cond.instanceMethod yX0_init ∈ wsGA := List.mem_of_getElem? (i := 111) (by decide +kernel)
theorem mGA_112 : Cond.fieldLink RX6 21 "SightedMonths$Reader" "draft" "LSightedMonths$Almanac;" ∈ wsGA := List.mem_of_getElem? (i := 112) (by decide +kernel)
theorem mGA_113 : Cond.fieldLink RX6 25 "SightedMonths$Reader" "faultKind" "I" ∈ wsGA := List.mem_of_getElem? (i := 113) (by decide +kernel)
theorem mGA_114 : Cond.fieldLink RX6 29 "SightedMonths$Reader" "faultPlace" "I" ∈ wsGA := List.mem_of_getElem? (i := 114) (by decide +kernel)
theorem mGA_115 : Cond.fieldLink RX6 32 "SightedMonths$Reader" "token" "I" ∈ wsGA := List.mem_of_getElem? (i := 115) (by decide +kernel)
theorem mGA_116 : Cond.fieldLink RX6 35 "SightedMonths$Reader" "start" "I" ∈ wsGA := List.mem_of_getElem? (i := 116) (by decide +kernel)
theorem mGA_117 : Cond.fieldLink RX6 38 "SightedMonths$Reader" "stop" "I" ∈ wsGA := List.mem_of_getElem? (i := 117) (by decide +kernel)
theorem mGA_118 : Cond.methodLink RX11 3 objectInit ∈ wsGA := List.mem_of_getElem? (i := 118) (by decide +kernel)
theorem mGA_119 : Cond.classLink RX11 9 RX6 ∈ wsGA := List.mem_of_getElem? (i := 119) (by decide +kernel)
theorem mGA_120 : Cond.instantiable RX6 7 ∈ wsGA := List.mem_of_getElem? (i := 120) (by decide +kernel)
theorem mGA_121 : Cond.initialized RX6 ∈ wsGA := List.mem_of_getElem? (i := 121) (by decide +kernel)
theorem mGA_122 : Cond.code yX6_init cX6_init 1 none ∈ wsGA := List.mem_of_getElem? (i := 122) (by decide +kernel)
theorem mGA_123 : Cond.instanceMethod yX6_init ∈ wsGA := List.mem_of_getElem? (i := 123) (by decide +kernel)
theorem mGA_124 : Cond.classLink RX11 16 RX0 ∈ wsGA := List.mem_of_getElem? (i := 124) (by decide +kernel)
theorem mGA_125 : Cond.methodLink RX11 18 yX0_init ∈ wsGA := List.mem_of_getElem? (i := 125) (by decide +kernel)
theorem mGA_126 : Cond.fieldLink RX11 23 "SightedMonths" "spare" "LSightedMonths$Almanac;" ∈ wsGA := List.mem_of_getElem? (i := 126) (by decide +kernel)
theorem mGA_127 : Cond.classLink RX11 26 RX3 ∈ wsGA := List.mem_of_getElem? (i := 127) (by decide +kernel)
theorem mGA_128 : Cond.fieldLink RX11 29 "SightedMonths" "freeFrame" "LSightedMonths$Frame;" ∈ wsGA := List.mem_of_getElem? (i := 128) (by decide +kernel)
theorem mGA_129 : Cond.classLink RX11 33 RX1 ∈ wsGA := List.mem_of_getElem? (i := 129) (by decide +kernel)
theorem mGA_130 : Cond.instantiable RX1 7 ∈ wsGA := List.mem_of_getElem? (i := 130) (by decide +kernel)
theorem mGA_131 : Cond.initialized RX1 ∈ wsGA := List.mem_of_getElem? (i := 131) (by decide +kernel)
theorem mGA_132 : Cond.code yX1_init cX1_init 1 none ∈ wsGA := List.mem_of_getElem? (i := 132) (by decide +kernel)
theorem mGA_133 : Cond.instanceMethod yX1_init ∈ wsGA := List.mem_of_getElem? (i := 133) (by decide +kernel)
theorem mGA_134 : Cond.fieldLink RX11 36 "SightedMonths" "court" "LSightedMonths$Court;" ∈ wsGA := List.mem_of_getElem? (i := 134) (by decide +kernel)
theorem mGA_135 : Cond.fieldLink RX11 40 "SightedMonths" "otherCourt" "LSightedMonths$Court;" ∈ wsGA := List.mem_of_getElem? (i := 135) (by decide +kernel)
theorem mGA_136 : Cond.classLink RX11 43 RX9 ∈ wsGA := List.mem_of_getElem? (i := 136) (by decide +kernel)
theorem mGA_137 : Cond.instantiable RX9 6 ∈ wsGA := List.mem_of_getElem? (i := 137) (by decide +kernel)
theorem mGA_138 : Cond.initialized RX9 ∈ wsGA := List.mem_of_getElem? (i := 138) (by decide +kernel)
theorem mGA_139 : Cond.code yX9_init cX9_init 1 none ∈ wsGA := List.mem_of_getElem? (i := 139) (by decide +kernel)
theorem mGA_140 : Cond.instanceMethod yX9_init ∈ wsGA := List.mem_of_getElem? (i := 140) (by decide +kernel)
theorem mGA_141 : Cond.fieldLink RX11 46 "SightedMonths" "tally" "LSightedMonths$Tally;" ∈ wsGA := List.mem_of_getElem? (i := 141) (by decide +kernel)
theorem mGA_142 : Cond.classLink RX11 50 RX8 ∈ wsGA := List.mem_of_getElem? (i := 142) (by decide +kernel)
theorem mGA_143 : Cond.instantiable RX8 5 ∈ wsGA := List.mem_of_getElem? (i := 143) (by decide +kernel)
theorem mGA_144 : Cond.initialized RX8 ∈ wsGA := List.mem_of_getElem? (i := 144) (by decide +kernel)
theorem mGA_145 : Cond.code yX8_init cX8_init 1 none ∈ wsGA := List.mem_of_getElem? (i := 145) (by decide +kernel)
theorem mGA_146 : Cond.instanceMethod yX8_init ∈ wsGA := List.mem_of_getElem? (i := 146) (by decide +kernel)
theorem mGA_147 : Cond.fieldLink RX11 53 "SightedMonths" "search" "LSightedMonths$Search;" ∈ wsGA := List.mem_of_getElem? (i := 147) (by decide +kernel)
theorem mGA_148 : Cond.classLink RX11 57 RX4 ∈ wsGA := List.mem_of_getElem? (i := 148) (by decide +kernel)
theorem mGA_149 : Cond.instantiable RX4 3 ∈ wsGA := List.mem_of_getElem? (i := 149) (by decide +kernel)
theorem mGA_150 : Cond.initialized RX4 ∈ wsGA := List.mem_of_getElem? (i := 150) (by decide +kernel)
theorem mGA_151 : Cond.code yX4_init cX4_init 1 none ∈ wsGA := List.mem_of_getElem? (i := 151) (by decide +kernel)
theorem mGA_152 : Cond.instanceMethod yX4_init ∈ wsGA := List.mem_of_getElem? (i := 152) (by decide +kernel)
theorem mGA_153 : Cond.fieldLink RX11 60 "SightedMonths" "history" "LSightedMonths$History;" ∈ wsGA := List.mem_of_getElem? (i := 153) (by decide +kernel)
theorem mGA_154 : Cond.fieldLink RX11 64 "SightedMonths" "kept" "[I" ∈ wsGA := List.mem_of_getElem? (i := 154) (by decide +kernel)
theorem mGA_155 : Cond.fieldLink RX11 68 "SightedMonths" "out" "[B" ∈ wsGA := List.mem_of_getElem? (i := 155) (by decide +kernel)
theorem mGA_156 : Cond.fieldLink RX11 76 "SightedMonths" "courtStands" "Z" ∈ wsGA := List.mem_of_getElem? (i := 156) (by decide +kernel)
theorem mGA_157 : Cond.fieldLink RX11 80 "SightedMonths" "courtNews" "I" ∈ wsGA := List.mem_of_getElem? (i := 157) (by decide +kernel)
theorem mGA_158 : Cond.fieldLink RX11 83 "SightedMonths" "tallyStands" "Z" ∈ wsGA := List.mem_of_getElem? (i := 158) (by decide +kernel)
theorem mGA_159 : Cond.fieldLink RX11 86 "SightedMonths" "historyStands" "Z" ∈ wsGA := List.mem_of_getElem? (i := 159) (by decide +kernel)
theorem mGA_160 : Cond.code yX10_put cX10_put 2 none ∈ wsGA := List.mem_of_getElem? (i := 160) (by decide +kernel)
theorem mGA_161 : Cond.methodLink RX11 98 yX10_put ∈ wsGA := List.mem_of_getElem? (i := 161) (by decide +kernel)
theorem mGA_162 : Cond.instanceMethod yX10_put ∈ wsGA := List.mem_of_getElem? (i := 162) (by decide +kernel)
theorem mGA_163 : Cond.selects RX10 yX10_put yX10_put ∈ wsGA := List.mem_of_getElem? (i := 163) (by decide +kernel)
theorem mGA_164 : Cond.fieldLink RX0 32 "SightedMonths$Almanac" "months" "I" ∈ wsGA := List.mem_of_getElem? (i := 164) (by decide +kernel)
theorem mGA_165 : Cond.fieldLink RX0 36 "SightedMonths$Almanac" "full" "I" ∈ wsGA := List.mem_of_getElem? (i := 165) (by decide +kernel)
theorem mGA_166 : Cond.fieldLink RX0 39 "SightedMonths$Almanac" "lean" "I" ∈ wsGA := List.mem_of_getElem? (i := 166) (by decide +kernel)
theorem mGA_167 : Cond.fieldLink RX0 42 "SightedMonths$Almanac" "lines" "I" ∈ wsGA := List.mem_of_getElem? (i := 167) (by decide +kernel)
theorem mGA_168 : Cond.fieldLink RX0 45 "SightedMonths$Almanac" "hasMoon" "Z" ∈ wsGA := List.mem_of_getElem? (i := 168) (by decide +kernel)
theorem mGA_169 : Cond.fieldLink RX0 49 "SightedMonths$Almanac" "moonStart" "I" ∈ wsGA := List.mem_of_getElem? (i := 169) (by decide +kernel)
theorem mGA_170 : Cond.fieldLink RX0 52 "SightedMonths$Almanac" "moonStep" "I" ∈ wsGA := List.mem_of_getElem? (i := 170) (by decide +kernel)
theorem mGA_171 : Cond.fieldLink RX0 55 "SightedMonths$Almanac" "placeCount" "I" ∈ wsGA := List.mem_of_getElem? (i := 171) (by decide +kernel)
theorem mGA_172 : Cond.fieldLink RX0 58 "SightedMonths$Almanac" "reportCount" "I" ∈ wsGA := List.mem_of_getElem? (i := 172) (by decide +kernel)
theorem mGA_173 : Cond.fieldLink RX0 61 "SightedMonths$Almanac" "deedCount" "I" ∈ wsGA := List.mem_of_getElem? (i := 173) (by decide +kernel)
theorem mGA_174 : Cond.fieldLink RX6 205 "SightedMonths$Tape" "length" "I" ∈ wsGA := List.mem_of_getElem? (i := 174) (by decide +kernel)
theorem mGA_175 : Cond.code yX6_byteAt cX6_byteAt 2 (some .int) ∈ wsGA := List.mem_of_getElem? (i := 175) (by decide +kernel)
theorem mGA_176 : Cond.methodLink RX6 181 yX6_byteAt ∈ wsGA := List.mem_of_getElem? (i := 176) (by decide +kernel)
theorem mGA_177 : Cond.instanceMethod yX6_byteAt ∈ wsGA := List.mem_of_getElem? (i := 177) (by decide +kernel)
theorem mGA_178 : Cond.selects RX6 yX6_byteAt yX6_byteAt ∈ wsGA := List.mem_of_getElem? (i := 178) (by decide +kernel)
theorem mGA_179 : Cond.code yX0_wipe cX0_wipe 1 none ∈ wsGA := List.mem_of_getElem? (i := 179) (by decide +kernel)
theorem mGA_180 : Cond.methodLink RX6 41 yX0_wipe ∈ wsGA := List.mem_of_getElem? (i := 180) (by decide +kernel)
theorem mGA_181 : Cond.instanceMethod yX0_wipe ∈ wsGA := List.mem_of_getElem? (i := 181) (by decide +kernel)
theorem mGA_182 : Cond.selects RX0 yX0_wipe yX0_wipe ∈ wsGA := List.mem_of_getElem? (i := 182) (by decide +kernel)
theorem mGA_183 : Cond.code yX6_step cX6_step 2 none ∈ wsGA := List.mem_of_getElem? (i := 183) (by decide +kernel)
theorem mGA_184 : Cond.methodLink RX6 44 yX6_step ∈ wsGA := List.mem_of_getElem? (i := 184) (by decide +kernel)
theorem mGA_185 : Cond.instanceMethod yX6_step ∈ wsGA := List.mem_of_getElem? (i := 185) (by decide +kernel)
theorem mGA_186 : Cond.selects RX6 yX6_step yX6_step ∈ wsGA := List.mem_of_getElem? (i := 186) (by decide +kernel)
theorem mGA_187 : Cond.code yX6_read cX6_read 2 none ∈ wsGA := List.mem_of_getElem? (i := 187) (by decide +kernel)
theorem mGA_188 : Cond.methodLink RX11 102 yX6_read ∈ wsGA := List.mem_of_getElem? (i := 188) (by decide +kernel)
theorem mGA_189 : Cond.instanceMethod yX6_read ∈ wsGA := List.mem_of_getElem? (i := 189) (by decide +kernel)
theorem mGA_190 : Cond.selects RX6 yX6_read yX6_read ∈ wsGA := List.mem_of_getElem? (i := 190) (by decide +kernel)
theorem mGA_191 : Cond.fieldLink RX11 108 "SightedMonths$Reader" "draft" "LSightedMonths$Almanac;" ∈ wsGA := List.mem_of_getElem? (i := 191) (by decide +kernel)
theorem mGA_192 : Cond.code yX11_forget cX11_forget 1 none ∈ wsGA := List.mem_of_getElem? (i := 192) (by decide +kernel)
theorem mGA_193 : Cond.methodLink RX11 111 yX11_forget ∈ wsGA := List.mem_of_getElem? (i := 193) (by decide +kernel)
theorem mGA_194 : Cond.instanceMethod yX11_forget ∈ wsGA := List.mem_of_getElem? (i := 194) (by decide +kernel)
theorem mGA_195 : Cond.selects RX11 yX11_forget yX11_forget ∈ wsGA := List.mem_of_getElem? (i := 195) (by decide +kernel)
theorem jnGA_X11 : ∀ w ∈ wsX110, w ∈ wsGA := fun _ h => List.mem_append_left _ (List.mem_append_left _ (List.mem_append_left _ (List.mem_append_left _ (List.mem_append_left _ (List.mem_append_left _ (List.mem_append_left _ (List.mem_append_left _ (List.mem_append_left _ (List.mem_append_left _ (List.mem_append_left _ (List.mem_append_right _ h)))))))))))
theorem jnGA_X0 : ∀ w ∈ wsX00, w ∈ wsGA := fun _ h => List.mem_append_left _ (List.mem_append_left _ (List.mem_append_left _ (List.mem_append_left _ (List.mem_append_left _ (List.mem_append_left _ (List.mem_append_left _ (List.mem_append_left _ (List.mem_append_left _ (List.mem_append_left _ (List.mem_append_right _ h))))))))))
theorem jnGA_X6 : ∀ w ∈ wsX60, w ∈ wsGA := fun _ h => List.mem_append_left _ (List.mem_append_left _ (List.mem_append_left _ (List.mem_append_left _ (List.mem_append_left _ (List.mem_append_left _ (List.mem_append_left _ (List.mem_append_left _ (List.mem_append_left _ (List.mem_append_right _ h)))))))))
theorem jnGA_X10 : ∀ w ∈ wsX100, w ∈ wsGA := fun _ h => List.mem_append_left _ (List.mem_append_left _ (List.mem_append_left _ (List.mem_append_left _ (List.mem_append_left _ (List.mem_append_left _ (List.mem_append_left _ (List.mem_append_left _ (List.mem_append_right _ h))))))))
theorem jnGA_X3 : ∀ w ∈ wsX30, w ∈ wsGA := fun _ h => List.mem_append_left _ (List.mem_append_left _ (List.mem_append_left _ (List.mem_append_left _ (List.mem_append_left _ (List.mem_append_left _ (List.mem_append_left _ (List.mem_append_right _ h)))))))
theorem jnGA_X9 : ∀ w ∈ wsX90, w ∈ wsGA := fun _ h => List.mem_append_left _ (List.mem_append_left _ (List.mem_append_left _ (List.mem_append_left _ (List.mem_append_left _ (List.mem_append_left _ (List.mem_append_right _ h))))))
theorem jnGA_X8 : ∀ w ∈ wsX80, w ∈ wsGA := fun _ h => List.mem_append_left _ (List.mem_append_left _ (List.mem_append_left _ (List.mem_append_left _ (List.mem_append_left _ (List.mem_append_right _ h)))))
theorem jnGA_X4 : ∀ w ∈ wsX40, w ∈ wsGA := fun _ h => List.mem_append_left _ (List.mem_append_left _ (List.mem_append_left _ (List.mem_append_left _ (List.mem_append_right _ h))))
theorem jnGA_X1 : ∀ w ∈ wsX10, w ∈ wsGA := fun _ h => List.mem_append_left _ (List.mem_append_left _ (List.mem_append_left _ (List.mem_append_right _ h)))
theorem jnGA_X5 : ∀ w ∈ wsX50, w ∈ wsGA := fun _ h => List.mem_append_left _ (List.mem_append_left _ (List.mem_append_right _ h))
theorem jnGA_X7 : ∀ w ∈ wsX70, w ∈ wsGA := fun _ h => List.mem_append_left _ (List.mem_append_right _ h)
theorem jnGA_X2 : ∀ w ∈ wsX20, w ∈ wsGA := fun _ h => List.mem_append_right _ h
theorem goodGA : wsGA.all goodWord = true := by decide +kernel
set_option maxRecDepth 100000 in
def wsGB : List Cond := [Cond.fieldLink RX12 126 "SightedMonthsModel" "lines" "I", Cond.fieldLink RX12 138 "SightedMonthsModel" "places" "I", Cond.code yX12_in cX12_in 6 (some .boolean), Cond.methodLink RX12 102 yX12_in, Cond.static yX12_in, Cond.initialized RX12, Cond.fieldLink RX12 141 "SightedMonthsModel" "reports" "I", Cond.fieldLink RX12 144 "SightedMonthsModel" "deeds" "I", Cond.code yX12_isPlace cX12_isPlace 2 (some .boolean), Cond.methodLink RX12 294 yX12_isPlace, Cond.instanceMethod yX12_isPlace, Cond.selects RX12 yX12_isPlace yX12_isPlace, Cond.code yX12_isReport cX12_isReport 2 (some .boolean), Cond.methodLink RX12 303 yX12_isReport, Cond.instanceMethod yX12_isReport, Cond.selects RX12 yX12_isReport yX12_isReport, Cond.code yX12_isDeed cX12_isDeed 2 (some .boolean), Cond.methodLink RX12 306 yX12_isDeed, Cond.instanceMethod yX12_isDeed, Cond.selects RX12 yX12_isDeed yX12_isDeed, Cond.fieldLink RX12 129 "SightedMonthsModel" "hasMoon" "Z", Cond.code yX12_isTime cX12_isTime 2 (some .boolean), Cond.methodLink RX12 359 yX12_isTime, Cond.instanceMethod yX12_isTime, Cond.selects RX12 yX12_isTime yX12_isTime, Cond.fieldLink RX12 53 "SightedMonthsModel" "faultPlace" "I", Cond.fieldLink RX12 177 "SightedMonthsModel" "faultKind" "I", Cond.fieldLink RX12 117 "SightedMonthsModel" "months" "I", Cond.fieldLink RX12 120 "SightedMonthsModel" "mostFull" "I", Cond.fieldLink RX12 123 "SightedMonthsModel" "mostLean" "I", Cond.fieldLink RX12 99 "SightedMonthsModel" "taped" "I", Cond.fieldLink RX12 289 "SightedMonthsModel" "outs" "I", Cond.fieldLink RX12 132 "SightedMonthsModel" "moonFirst" "I", Cond.fieldLink RX12 135 "SightedMonthsModel" "moonStep" "I", Cond.methodLink RX12 1 objectInit, Cond.instanceMethod objectInit, Cond.code objectInit ⟨#[0xb1]⟩ 1 none, Cond.arrayClass .int, Cond.fieldLink RX12 7 "SightedMonthsModel" "trust" "[I", Cond.fieldLink RX12 13 "SightedMonthsModel" "letter" "[I", Cond.fieldLink RX12 16 "SightedMonthsModel" "reportPlace" "[I", Cond.fieldLink RX12 19 "SightedMonthsModel" "reportKind" "[I", Cond.arrayClass .boolean, Cond.fieldLink RX12 22 "SightedMonthsModel" "struck" "[Z", Cond.fieldLink RX12 26 "SightedMonthsModel" "reportMonth" "[I", Cond.fieldLink RX12 29 "SightedMonthsModel" "reportDay" "[I", Cond.fieldLink RX12 32 "SightedMonthsModel" "reportKnown" "[I", Cond.fieldLink RX12 35 "SightedMonthsModel" "deedMonth" "[I", Cond.fieldLink RX12 38 "SightedMonthsModel" "deedDay" "[I", Cond.fieldLink RX12 41 "SightedMonthsModel" "deedLong" "[I", Cond.fieldLink RX12 44 "SightedMonthsModel" "deedKind" "[I", Cond.fieldLink RX12 47 "SightedMonthsModel" "kept" "[I", Cond.fieldLink RX12 50 "SightedMonthsModel" "tape" "[I", Cond.fieldLink RX12 57 "SightedMonthsModel" "must" "[I", Cond.fieldLink RX12 60 "SightedMonthsModel" "least" "[I", Cond.fieldLink RX12 63 "SightedMonthsModel" "pin" "[I", Cond.fieldLink RX12 66 "SightedMonthsModel" "ways" "[I", Cond.fieldLink RX12 69 "SightedMonthsModel" "verdict" "[I", Cond.fieldLink RX12 72 "SightedMonthsModel" "row" "[I", Cond.fieldLink RX12 75 "SightedMonthsModel" "only" "I", Cond.fieldLink RX12 78 "SightedMonthsModel" "without" "I", Cond.fieldLink RX12 81 "SightedMonthsModel" "otherTrust" "I", Cond.fieldLink RX12 84 "SightedMonthsModel" "whose" "I", Cond.fieldLink RX12 87 "SightedMonthsModel" "official" "[I", Cond.fieldLink RX12 90 "SightedMonthsModel" "aside" "[I", Cond.fieldLink RX12 93 "SightedMonthsModel" "worth" "[I", Cond.fieldLink RX12 96 "SightedMonthsModel" "out" "[I", Cond.fieldLink RX12 106 "SightedMonthsModel" "keeps" "Z", Cond.fieldLink RX12 110 "SightedMonthsModel" "keptAt" "I", Cond.code yX12_moves cX12_moves 3 (some .int), Cond.methodLink RX12 113 yX12_moves, Cond.instanceMethod yX12_moves, Cond.selects RX12 yX12_moves yX12_moves, Cond.code yX12_movesRow cX12_movesRow 3 none, Cond.methodLink RX12 147 yX12_movesRow, Cond.instanceMethod yX12_movesRow, Cond.selects RX12 yX12_movesRow yX12_movesRow, Cond.fieldLink RX12 151 "SightedMonthsModel" "at" "I", Cond.code yX12_isAt cX12_isAt 3 (some .boolean), Cond.methodLink RX12 154 yX12_isAt, Cond.instanceMethod yX12_isAt, Cond.selects RX12 yX12_isAt yX12_isAt, Cond.fieldLink RX12 158 "SightedMonthsModel" "begin" "I", Cond.fieldLink RX12 161 "SightedMonthsModel" "value" "I", Cond.fieldLink RX12 164 "SightedMonthsModel" "token" "I", Cond.code yX12_movesAll cX12_movesAll 3 none, Cond.methodLink RX12 283 yX12_movesAll, Cond.instanceMethod yX12_movesAll, Cond.selects RX12 yX12_movesAll yX12_movesAll, Cond.fieldLink RX12 174 "SightedMonthsModel" "bad" "Z", Cond.code yX12_next cX12_next 1 none, Cond.methodLink RX12 198 yX12_next, Cond.instanceMethod yX12_next, Cond.selects RX12 yX12_next yX12_next] ++ wsX120
theorem mGB_0 : Cond.fieldLink RX12 126 "SightedMonthsModel" "lines" "I" ∈ wsGB := List.mem_of_getElem? (i := 0) (by decide +kernel)
theorem mGB_1 : Cond.fieldLink RX12 138 "SightedMonthsModel" "places" "I" ∈ wsGB := List.mem_of_getElem? (i := 1) (by decide +kernel)
theorem mGB_2 : Cond.code yX12_in cX12_in 6 (some .boolean) ∈ wsGB := List.mem_of_getElem? (i := 2) (by decide +kernel)
theorem mGB_3 : Cond.methodLink RX12 102 yX12_in ∈ wsGB := List.mem_of_getElem? (i := 3) (by decide +kernel)
theorem mGB_4 : Cond.static yX12_in ∈ wsGB := List.mem_of_getElem? (i := 4) (by decide +kernel)
theorem mGB_5 : Cond.initialized RX12 ∈ wsGB := List.mem_of_getElem? (i := 5) (by decide +kernel)
theorem mGB_6 : Cond.fieldLink RX12 141 "SightedMonthsModel" "reports" "I" ∈ wsGB := List.mem_of_getElem? (i := 6) (by decide +kernel)
theorem mGB_7 : Cond.fieldLink RX12 144 "SightedMonthsModel" "deeds" "I" ∈ wsGB := List.mem_of_getElem? (i := 7) (by decide +kernel)
theorem mGB_8 : Cond.code yX12_isPlace cX12_isPlace 2 (some .boolean) ∈ wsGB := List.mem_of_getElem? (i := 8) (by decide +kernel)
theorem mGB_9 : Cond.methodLink RX12 294 yX12_isPlace ∈ wsGB := List.mem_of_getElem? (i := 9) (by decide +kernel)
theorem mGB_10 : Cond.instanceMethod yX12_isPlace ∈ wsGB := List.mem_of_getElem? (i := 10) (by decide +kernel)
theorem mGB_11 : Cond.selects RX12 yX12_isPlace yX12_isPlace ∈ wsGB := List.mem_of_getElem? (i := 11) (by decide +kernel)
theorem mGB_12 : Cond.code yX12_isReport cX12_isReport 2 (some .boolean) ∈ wsGB := List.mem_of_getElem? (i := 12) (by decide +kernel)
theorem mGB_13 : Cond.methodLink RX12 303 yX12_isReport ∈ wsGB := List.mem_of_getElem? (i := 13) (by decide +kernel)
theorem mGB_14 : Cond.instanceMethod yX12_isReport ∈ wsGB := List.mem_of_getElem? (i := 14) (by decide +kernel)
theorem mGB_15 : Cond.selects RX12 yX12_isReport yX12_isReport ∈ wsGB := List.mem_of_getElem? (i := 15) (by decide +kernel)
theorem mGB_16 : Cond.code yX12_isDeed cX12_isDeed 2 (some .boolean) ∈ wsGB := List.mem_of_getElem? (i := 16) (by decide +kernel)
theorem mGB_17 : Cond.methodLink RX12 306 yX12_isDeed ∈ wsGB := List.mem_of_getElem? (i := 17) (by decide +kernel)
theorem mGB_18 : Cond.instanceMethod yX12_isDeed ∈ wsGB := List.mem_of_getElem? (i := 18) (by decide +kernel)
theorem mGB_19 : Cond.selects RX12 yX12_isDeed yX12_isDeed ∈ wsGB := List.mem_of_getElem? (i := 19) (by decide +kernel)
theorem mGB_20 : Cond.fieldLink RX12 129 "SightedMonthsModel" "hasMoon" "Z" ∈ wsGB := List.mem_of_getElem? (i := 20) (by decide +kernel)
theorem mGB_21 : Cond.code yX12_isTime cX12_isTime 2 (some .boolean) ∈ wsGB := List.mem_of_getElem? (i := 21) (by decide +kernel)
theorem mGB_22 : Cond.methodLink RX12 359 yX12_isTime ∈ wsGB := List.mem_of_getElem? (i := 22) (by decide +kernel)
theorem mGB_23 : Cond.instanceMethod yX12_isTime ∈ wsGB := List.mem_of_getElem? (i := 23) (by decide +kernel)
theorem mGB_24 : Cond.selects RX12 yX12_isTime yX12_isTime ∈ wsGB := List.mem_of_getElem? (i := 24) (by decide +kernel)
theorem mGB_25 : Cond.fieldLink RX12 53 "SightedMonthsModel" "faultPlace" "I" ∈ wsGB := List.mem_of_getElem? (i := 25) (by decide +kernel)
theorem mGB_26 : Cond.fieldLink RX12 177 "SightedMonthsModel" "faultKind" "I" ∈ wsGB := List.mem_of_getElem? (i := 26) (by decide +kernel)
theorem mGB_27 : Cond.fieldLink RX12 117 "SightedMonthsModel" "months" "I" ∈ wsGB := List.mem_of_getElem? (i := 27) (by decide +kernel)
theorem mGB_28 : Cond.fieldLink RX12 120 "SightedMonthsModel" "mostFull" "I" ∈ wsGB := List.mem_of_getElem? (i := 28) (by decide +kernel)
theorem mGB_29 : Cond.fieldLink RX12 123 "SightedMonthsModel" "mostLean" "I" ∈ wsGB := List.mem_of_getElem? (i := 29) (by decide +kernel)
theorem mGB_30 : Cond.fieldLink RX12 99 "SightedMonthsModel" "taped" "I" ∈ wsGB := List.mem_of_getElem? (i := 30) (by decide +kernel)
theorem mGB_31 : Cond.fieldLink RX12 289 "SightedMonthsModel" "outs" "I" ∈ wsGB := List.mem_of_getElem? (i := 31) (by decide +kernel)
theorem mGB_32 : Cond.fieldLink RX12 132 "SightedMonthsModel" "moonFirst" "I" ∈ wsGB := List.mem_of_getElem? (i := 32) (by decide +kernel)
theorem mGB_33 : Cond.fieldLink RX12 135 "SightedMonthsModel" "moonStep" "I" ∈ wsGB := List.mem_of_getElem? (i := 33) (by decide +kernel)
theorem mGB_34 : Cond.methodLink RX12 1 objectInit ∈ wsGB := List.mem_of_getElem? (i := 34) (by decide +kernel)
theorem mGB_35 : Cond.instanceMethod objectInit ∈ wsGB := List.mem_of_getElem? (i := 35) (by decide +kernel)
theorem mGB_36 : Cond.code objectInit ⟨#[0xb1]⟩ 1 none ∈ wsGB := List.mem_of_getElem? (i := 36) (by decide +kernel)
theorem mGB_37 : Cond.arrayClass .int ∈ wsGB := List.mem_of_getElem? (i := 37) (by decide +kernel)
theorem mGB_38 : Cond.fieldLink RX12 7 "SightedMonthsModel" "trust" "[I" ∈ wsGB := List.mem_of_getElem? (i := 38) (by decide +kernel)
theorem mGB_39 : Cond.fieldLink RX12 13 "SightedMonthsModel" "letter" "[I" ∈ wsGB := List.mem_of_getElem? (i := 39) (by decide +kernel)
theorem mGB_40 : Cond.fieldLink RX12 16 "SightedMonthsModel" "reportPlace" "[I" ∈ wsGB := List.mem_of_getElem? (i := 40) (by decide +kernel)
theorem mGB_41 : Cond.fieldLink RX12 19 "SightedMonthsModel" "reportKind" "[I" ∈ wsGB := List.mem_of_getElem? (i := 41) (by decide +kernel)
theorem mGB_42 : Cond.arrayClass .boolean ∈ wsGB := List.mem_of_getElem? (i := 42) (by decide +kernel)
theorem mGB_43 : Cond.fieldLink RX12 22 "SightedMonthsModel" "struck" "[Z" ∈ wsGB := List.mem_of_getElem? (i := 43) (by decide +kernel)
theorem mGB_44 : Cond.fieldLink RX12 26 "SightedMonthsModel" "reportMonth" "[I" ∈ wsGB := List.mem_of_getElem? (i := 44) (by decide +kernel)
theorem mGB_45 : Cond.fieldLink RX12 29 "SightedMonthsModel" "reportDay" "[I" ∈ wsGB := List.mem_of_getElem? (i := 45) (by decide +kernel)
theorem mGB_46 : Cond.fieldLink RX12 32 "SightedMonthsModel" "reportKnown" "[I" ∈ wsGB := List.mem_of_getElem? (i := 46) (by decide +kernel)
theorem mGB_47 : Cond.fieldLink RX12 35 "SightedMonthsModel" "deedMonth" "[I" ∈ wsGB := List.mem_of_getElem? (i := 47) (by decide +kernel)
theorem mGB_48 : Cond.fieldLink RX12 38 "SightedMonthsModel" "deedDay" "[I" ∈ wsGB := List.mem_of_getElem? (i := 48) (by decide +kernel)
theorem mGB_49 : Cond.fieldLink RX12 41 "SightedMonthsModel" "deedLong" "[I" ∈ wsGB := List.mem_of_getElem? (i := 49) (by decide +kernel)
theorem mGB_50 : Cond.fieldLink RX12 44 "SightedMonthsModel" "deedKind" "[I" ∈ wsGB := List.mem_of_getElem? (i := 50) (by decide +kernel)
theorem mGB_51 : Cond.fieldLink RX12 47 "SightedMonthsModel" "kept" "[I" ∈ wsGB := List.mem_of_getElem? (i := 51) (by decide +kernel)
theorem mGB_52 : Cond.fieldLink RX12 50 "SightedMonthsModel" "tape" "[I" ∈ wsGB := List.mem_of_getElem? (i := 52) (by decide +kernel)
theorem mGB_53 : Cond.fieldLink RX12 57 "SightedMonthsModel" "must" "[I" ∈ wsGB := List.mem_of_getElem? (i := 53) (by decide +kernel)
theorem mGB_54 : Cond.fieldLink RX12 60 "SightedMonthsModel" "least" "[I" ∈ wsGB := List.mem_of_getElem? (i := 54) (by decide +kernel)
theorem mGB_55 : Cond.fieldLink RX12 63 "SightedMonthsModel" "pin" "[I" ∈ wsGB := List.mem_of_getElem? (i := 55) (by decide +kernel)
theorem mGB_56 : Cond.fieldLink RX12 66 "SightedMonthsModel" "ways" "[I" ∈ wsGB := List.mem_of_getElem? (i := 56) (by decide +kernel)
theorem mGB_57 : Cond.fieldLink RX12 69 "SightedMonthsModel" "verdict" "[I" ∈ wsGB := List.mem_of_getElem? (i := 57) (by decide +kernel)
theorem mGB_58 : Cond.fieldLink RX12 72 "SightedMonthsModel" "row" "[I" ∈ wsGB := List.mem_of_getElem? (i := 58) (by decide +kernel)
theorem mGB_59 : Cond.fieldLink RX12 75 "SightedMonthsModel" "only" "I" ∈ wsGB := List.mem_of_getElem? (i := 59) (by decide +kernel)
theorem mGB_60 : Cond.fieldLink RX12 78 "SightedMonthsModel" "without" "I" ∈ wsGB := List.mem_of_getElem? (i := 60) (by decide +kernel)
theorem mGB_61 : Cond.fieldLink RX12 81 "SightedMonthsModel" "otherTrust" "I" ∈ wsGB := List.mem_of_getElem? (i := 61) (by decide +kernel)
theorem mGB_62 : Cond.fieldLink RX12 84 "SightedMonthsModel" "whose" "I" ∈ wsGB := List.mem_of_getElem? (i := 62) (by decide +kernel)
theorem mGB_63 : Cond.fieldLink RX12 87 "SightedMonthsModel" "official" "[I" ∈ wsGB := List.mem_of_getElem? (i := 63) (by decide +kernel)
theorem mGB_64 : Cond.fieldLink RX12 90 "SightedMonthsModel" "aside" "[I" ∈ wsGB := List.mem_of_getElem? (i := 64) (by decide +kernel)
theorem mGB_65 : Cond.fieldLink RX12 93 "SightedMonthsModel" "worth" "[I" ∈ wsGB := List.mem_of_getElem? (i := 65) (by decide +kernel)
theorem mGB_66 : Cond.fieldLink RX12 96 "SightedMonthsModel" "out" "[I" ∈ wsGB := List.mem_of_getElem? (i := 66) (by decide +kernel)
theorem mGB_67 : Cond.fieldLink RX12 106 "SightedMonthsModel" "keeps" "Z" ∈ wsGB := List.mem_of_getElem? (i := 67) (by decide +kernel)
theorem mGB_68 : Cond.fieldLink RX12 110 "SightedMonthsModel" "keptAt" "I" ∈ wsGB := List.mem_of_getElem? (i := 68) (by decide +kernel)
theorem mGB_69 : Cond.code yX12_moves cX12_moves 3 (some .int) ∈ wsGB := List.mem_of_getElem? (i := 69) (by decide +kernel)
theorem mGB_70 : Cond.methodLink RX12 113 yX12_moves ∈ wsGB := List.mem_of_getElem? (i := 70) (by decide +kernel)
theorem mGB_71 : Cond.instanceMethod yX12_moves ∈ wsGB := List.mem_of_getElem? (i := 71) (by decide +kernel)
theorem mGB_72 : Cond.selects RX12 yX12_moves yX12_moves ∈ wsGB := List.mem_of_getElem? (i := 72) (by decide +kernel)
theorem mGB_73 : Cond.code yX12_movesRow cX12_movesRow 3 none ∈ wsGB := List.mem_of_getElem? (i := 73) (by decide +kernel)
theorem mGB_74 : Cond.methodLink RX12 147 yX12_movesRow ∈ wsGB := List.mem_of_getElem? (i := 74) (by decide +kernel)
theorem mGB_75 : Cond.instanceMethod yX12_movesRow ∈ wsGB := List.mem_of_getElem? (i := 75) (by decide +kernel)
theorem mGB_76 : Cond.selects RX12 yX12_movesRow yX12_movesRow ∈ wsGB := List.mem_of_getElem? (i := 76) (by decide +kernel)
theorem mGB_77 : Cond.fieldLink RX12 151 "SightedMonthsModel" "at" "I" ∈ wsGB := List.mem_of_getElem? (i := 77) (by decide +kernel)
theorem mGB_78 : Cond.code yX12_isAt cX12_isAt 3 (some .boolean) ∈ wsGB := List.mem_of_getElem? (i := 78) (by decide +kernel)
theorem mGB_79 : Cond.methodLink RX12 154 yX12_isAt ∈ wsGB := List.mem_of_getElem? (i := 79) (by decide +kernel)
theorem mGB_80 : Cond.instanceMethod yX12_isAt ∈ wsGB := List.mem_of_getElem? (i := 80) (by decide +kernel)
theorem mGB_81 : Cond.selects RX12 yX12_isAt yX12_isAt ∈ wsGB := List.mem_of_getElem? (i := 81) (by decide +kernel)
theorem mGB_82 : Cond.fieldLink RX12 158 "SightedMonthsModel" "begin" "I" ∈ wsGB := List.mem_of_getElem? (i := 82) (by decide +kernel)
theorem mGB_83 : Cond.fieldLink RX12 161 "SightedMonthsModel" "value" "I" ∈ wsGB := List.mem_of_getElem? (i := 83) (by decide +kernel)
theorem mGB_84 : Cond.fieldLink RX12 164 "SightedMonthsModel" "token" "I" ∈ wsGB := List.mem_of_getElem? (i := 84) (by decide +kernel)
theorem mGB_85 : Cond.code yX12_movesAll cX12_movesAll 3 none ∈ wsGB := List.mem_of_getElem? (i := 85) (by decide +kernel)
theorem mGB_86 : Cond.methodLink RX12 283 yX12_movesAll ∈ wsGB := List.mem_of_getElem? (i := 86) (by decide +kernel)
theorem mGB_87 : Cond.instanceMethod yX12_movesAll ∈ wsGB := List.mem_of_getElem? (i := 87) (by decide +kernel)
theorem mGB_88 : Cond.selects RX12 yX12_movesAll yX12_movesAll ∈ wsGB := List.mem_of_getElem? (i := 88) (by decide +kernel)
theorem mGB_89 : Cond.fieldLink RX12 174 "SightedMonthsModel" "bad" "Z" ∈ wsGB := List.mem_of_getElem? (i := 89) (by decide +kernel)
theorem mGB_90 : Cond.code yX12_next cX12_next 1 none ∈ wsGB := List.mem_of_getElem? (i := 90) (by decide +kernel)
theorem mGB_91 : Cond.methodLink RX12 198 yX12_next ∈ wsGB := List.mem_of_getElem? (i := 91) (by decide +kernel)
theorem mGB_92 : Cond.instanceMethod yX12_next ∈ wsGB := List.mem_of_getElem? (i := 92) (by decide +kernel)
theorem mGB_93 : Cond.selects RX12 yX12_next yX12_next ∈ wsGB := List.mem_of_getElem? (i := 93) (by decide +kernel)
theorem jnGB_X12 : ∀ w ∈ wsX120, w ∈ wsGB := fun _ h => List.mem_append_right _ h
theorem goodGB : wsGB.all goodWord = true := by decide +kernel
end
section
theorem dX12_in_0 : decode cX12_in 0 = .ok (.lload_n 0, 1) := by decide +kernel
theorem dX12_in_1 : decode cX12_in 1 = .ok (.lload_n 2, 1) := by decide +kernel
theorem dX12_in_2 : decode cX12_in 2 = .ok (.lcmp, 1) := by decide +kernel
theorem dX12_in_3 : decode cX12_in 3 = .ok (.ifCond .lt 14, 3) := by decide +kernel
theorem dX12_in_6 : decode cX12_in 6 = .ok (.lload_n 0, 1) := by decide +kernel
theorem dX12_in_7 : decode cX12_in 7 = .ok (.lload 4, 2) := by decide +kernel
theorem dX12_in_9 : decode cX12_in 9 = .ok (.lcmp, 1) := by decide +kernel
theorem dX12_in_10 : decode cX12_in 10 = .ok (.ifCond .gt 7, 3) := by decide +kernel
theorem dX12_in_13 : decode cX12_in 13 = .ok (.iconst 1, 1) := by decide +kernel
theorem dX12_in_14 : decode cX12_in 14 = .ok (.goto 4, 3) := by decide +kernel
theorem dX12_in_17 : decode cX12_in 17 = .ok (.iconst 0, 1) := by decide +kernel
theorem dX12_in_18 : decode cX12_in 18 = .ok (.ireturn, 1) := by decide +kernel

set_option maxHeartbeats 4000000 in
set_option maxRecDepth 100000 in
theorem fX12_in (l : Launch) (dC : Nat → ClassId) (dI : Nat → Nat → Nat) (p0 : Int64) (p1 : Int64) (p2 : Int64) : Met l yX12_in (.code yX12_in cX12_in 6 (some .boolean) :: wsGB) ({ frames := 0, cells := 0, slots := 0, locals := 0 }) (va_Pc [.long p0, .long p1, .long p2] (fun U => va_P (dC, dI) vwCl [] U.heap ∧ va_K (dC, dI) vwCl [] U)) (va_Qi (fun (r : Int32) (u : Unit) => r = gz_in p0 p1 p2) (fun _ _ => True) (fun _ => False)) 0 0 (fun _ => False) := by
  refine Met.ofW (cc := cX12_in) (maxL := 6) (ret := (some .boolean)) (by decide) rfl ?_
  intro p e s m args below meth c s₁ B hml hv
  obtain ⟨rfl, hP, hK⟩ := hv
  have hx := B.exec
  have hb := B.bytes
  have hr := B.returns
  have hts := atoms_spec (ws := (.code yX12_in cX12_in 6 (some .boolean) :: wsGB)) B.pre
  have hown : s.vm.findClass RX12 = some m.cls := findClass_of_methodNamed B.named
  have hlocks := B.notSynchronized
  have hS : va_S (fun _ => False) s.heap s.heap [] := va_S.rf
  have hl := lv_entry ([.long p0, .long p1, .long p2]) (n := 6) (Nat.le_of_ble_eq_true rfl)
  rw [lg_entry_eq]
  generalize (lg_sl ([.long p0, .long p1, .long p2]) ++ List.replicate (6 - (lg_sl ([.long p0, .long p1, .long p2])).length) Slot.unset).toArray = ls at hl ⊢
  have hl : lv_has ls 6 [(0, .long p0), (2, .long p1), (4, .long p2)] := hl
  refine lv_lload_n hx hb dX12_in_0 rfl (lv_at hl 0 rfl) ?_
  refine lv_lload_n hx hb dX12_in_1 rfl (lv_at hl 1 rfl) ?_
  refine W.lcmp hx hb dX12_in_2 ?_
  refine lv_if_lt (tgt := 17) hx hb dX12_in_3 (by decide) (fun c_1 => ?_) (fun c_1 => ?_)
  · refine lv_iconst (v := 0) hx hb dX12_in_17 (by decide) ?_
    exact W.zret (v := 0) hx hb hr (by decide) (fun t ht hW => ⟨⟨0, (), rfl, (gz_in_lt c_1), trivial⟩, hS.F ht⟩) hS.2.2 dX12_in_18
  · refine lv_lload_n hx hb dX12_in_6 rfl (lv_at hl 0 rfl) ?_
    refine lv_lload hx hb dX12_in_7 (lv_at hl 2 rfl) ?_
    refine W.lcmp hx hb dX12_in_9 ?_
    refine lv_if_gt (tgt := 17) hx hb dX12_in_10 (by decide) (fun c_2 => ?_) (fun c_2 => ?_)
    · refine lv_iconst (v := 0) hx hb dX12_in_17 (by decide) ?_
      exact W.zret (v := 0) hx hb hr (by decide) (fun t ht hW => ⟨⟨0, (), rfl, (gz_in_gt c_2), trivial⟩, hS.F ht⟩) hS.2.2 dX12_in_18
    · refine lv_iconst (v := 1) hx hb dX12_in_13 (by decide) ?_
      refine lv_goto (tgt := 18) hx hb dX12_in_14 (by decide) ?_
      exact W.zret (v := 1) hx hb hr (by decide) (fun t ht hW => ⟨⟨1, (), rfl, (gz_in_yes c_1 c_2), trivial⟩, hS.F ht⟩) hS.2.2 dX12_in_18
theorem dX12_isTime_0 : decode cX12_isTime 0 = .ok (.aload_n 0, 1) := by decide +kernel
theorem dX12_isTime_1 : decode cX12_isTime 1 = .ok (.getfield 126, 3) := by decide +kernel
theorem dX12_isTime_4 : decode cX12_isTime 4 = .ok (.ifCond .le 19, 3) := by decide +kernel
theorem dX12_isTime_23 : decode cX12_isTime 23 = .ok (.iconst 0, 1) := by decide +kernel
theorem dX12_isTime_24 : decode cX12_isTime 24 = .ok (.ireturn, 1) := by decide +kernel

set_option maxHeartbeats 4000000 in
set_option maxRecDepth 100000 in
theorem fX12_isTime (l : Launch) (dC : Nat → ClassId) (dI : Nat → Nat → Nat) (h0 : Nat) (r : Nat → Nat) (p0 : Int32) : Met l yX12_isTime (.code yX12_isTime cX12_isTime 2 (some .boolean) :: wsGB) ({ frames := 0, cells := 0, slots := 0, locals := 0 }) (va_Pc [.ref h0, .int p0] (fun U => va_P (dC, dI) vwCl [(h0, .inr (12, fsM r))] U.heap ∧ va_K (dC, dI) vwCl [] U)) (va_Qi (fun (r : Int32) (u : Unit) => r = 0) (fun _ _ => True) (fun _ => False)) 0 0 (fun _ => False) := by
  refine Met.ofW (cc := cX12_isTime) (maxL := 2) (ret := (some .boolean)) (by decide) rfl ?_
  intro p e s m args below meth c s₁ B hml hv
  obtain ⟨rfl, hP, hK⟩ := hv
  have hx := B.exec
  have hb := B.bytes
  have hr := B.returns
  have hts := atoms_spec (ws := (.code yX12_isTime cX12_isTime 2 (some .boolean) :: wsGB)) B.pre
  have hown : s.vm.findClass RX12 = some m.cls := findClass_of_methodNamed B.named
  have hlocks := B.notSynchronized
  have hS : va_S (fun _ => False) s.heap s.heap [] := va_S.rf
  have hl := lv_entry ([.ref h0, .int p0]) (n := 2) (Nat.le_of_ble_eq_true rfl)
  rw [lg_entry_eq]
  generalize (lg_sl ([.ref h0, .int p0]) ++ List.replicate (2 - (lg_sl ([.ref h0, .int p0])).length) Slot.unset).toArray = ls at hl ⊢
  have hl : lv_has ls 2 [(0, .ref h0), (1, .int p0)] := hl
  refine lv_aload_n hx hb dX12_isTime_0 rfl (lv_at hl 0 rfl) ?_
  refine va_get (D := (dC, dI)) (ci := 12) (v := .int 0) (C := RX12) (T := TX12) (N := 57) hx hb hts (fun w h => List.mem_cons_of_mem _ (jnGB_X12 w h)) hown hK hP 0 rfl rfl 3 (by decide) (hts _ (List.mem_cons_of_mem _ mGB_0)) (fun _ h9 => h9) rfl dX12_isTime_1 ?_
  refine lv_if_le (tgt := 23) hx hb dX12_isTime_4 (by decide) (fun c_1 => ?_) (fun c_1 => absurd (by decide) c_1)
  refine lv_iconst (v := 0) hx hb dX12_isTime_23 (by decide) ?_
  exact W.zret (v := 0) hx hb hr (by decide) (fun t ht hW => ⟨⟨0, (), rfl, rfl, trivial⟩, hS.F ht⟩) hS.2.2 dX12_isTime_24
theorem dX12_isPlace_0 : decode cX12_isPlace 0 = .ok (.iload_n 1, 1) := by decide +kernel
theorem dX12_isPlace_1 : decode cX12_isPlace 1 = .ok (.i2l, 1) := by decide +kernel
theorem dX12_isPlace_2 : decode cX12_isPlace 2 = .ok (.lconst 0, 1) := by decide +kernel
theorem dX12_isPlace_3 : decode cX12_isPlace 3 = .ok (.aload_n 0, 1) := by decide +kernel
theorem dX12_isPlace_4 : decode cX12_isPlace 4 = .ok (.getfield 138, 3) := by decide +kernel
theorem dX12_isPlace_7 : decode cX12_isPlace 7 = .ok (.iconst 1, 1) := by decide +kernel
theorem dX12_isPlace_8 : decode cX12_isPlace 8 = .ok (.isub, 1) := by decide +kernel
theorem dX12_isPlace_9 : decode cX12_isPlace 9 = .ok (.i2l, 1) := by decide +kernel
theorem dX12_isPlace_10 : decode cX12_isPlace 10 = .ok (.invokestatic 102, 3) := by decide +kernel
theorem dX12_isPlace_13 : decode cX12_isPlace 13 = .ok (.ireturn, 1) := by decide +kernel

set_option maxHeartbeats 4000000 in
set_option maxRecDepth 100000 in
theorem fX12_isPlace (l : Launch) (dC : Nat → ClassId) (dI : Nat → Nat → Nat) (h0 : Nat) (r : Nat → Nat) (p0 : Int32) : Met l yX12_isPlace (.code yX12_isPlace cX12_isPlace 2 (some .boolean) :: wsGB) ({ frames := 1, cells := 0, slots := 0, locals := 25 }) (va_Pc [.ref h0, .int p0] (fun U => va_P (dC, dI) vwCl [(h0, .inr (12, fsM r))] U.heap ∧ va_K (dC, dI) vwCl [] U)) (va_Qi (fun (r : Int32) (u : Unit) => r = 0) (fun _ _ => True) (fun _ => False)) 0 0 (fun _ => False) := by
  refine Met.ofW (cc := cX12_isPlace) (maxL := 2) (ret := (some .boolean)) (by decide) rfl ?_
  intro p e s m args below meth c s₁ B hml hv
  obtain ⟨rfl, hP, hK⟩ := hv
  have hx := B.exec
  have hb := B.bytes
  have hr := B.returns
  have hts := atoms_spec (ws := (.code yX12_isPlace cX12_isPlace 2 (some .boolean) :: wsGB)) B.pre
  have hown : s.vm.findClass RX12 = some m.cls := findClass_of_methodNamed B.named
  have hlocks := B.notSynchronized
  have hS : va_S (fun _ => False) s.heap s.heap [] := va_S.rf
  have hl := lv_entry ([.ref h0, .int p0]) (n := 2) (Nat.le_of_ble_eq_true rfl)
  rw [lg_entry_eq]
  generalize (lg_sl ([.ref h0, .int p0]) ++ List.replicate (2 - (lg_sl ([.ref h0, .int p0])).length) Slot.unset).toArray = ls at hl ⊢
  have hl : lv_has ls 2 [(0, .ref h0), (1, .int p0)] := hl
  refine lv_iload_n hx hb dX12_isPlace_0 rfl (lv_at hl 1 rfl) ?_
  refine lv_i2l (v := (p0).toInt64) hx hb dX12_isPlace_1 rfl ?_
  refine lv_lconst (v := 0) hx hb dX12_isPlace_2 (by decide) ?_
  refine lv_aload_n hx hb dX12_isPlace_3 rfl (lv_at hl 0 rfl) ?_
  refine va_get (D := (dC, dI)) (ci := 12) (v := .int 0) (C := RX12) (T := TX12) (N := 57) hx hb hts (fun w h => List.mem_cons_of_mem _ (jnGB_X12 w h)) hown hK hP 0 rfl rfl 7 (by decide) (hts _ (List.mem_cons_of_mem _ mGB_1)) (fun _ h9 => h9) rfl dX12_isPlace_4 ?_
  refine lv_iconst (v := 1) hx hb dX12_isPlace_7 (by decide) ?_
  refine lv_isub hx hb dX12_isPlace_8 ?_
  refine gz_topi (y := (-1)) (by decide) ?_
  refine lv_i2l (v := (-1)) hx hb dX12_isPlace_9 (by decide) ?_
  have hPc := hP.sub (ws' := []) [] rfl
  have hKc := hK.sub (tys' := []) [] rfl
  refine va_calli (va_runS (As := [.long ((p0).toInt64), .long 0, .long (-1)]) (rest := []) ⟨hx, hb, hml, hown, hts⟩ (fX12_in l dC dI ((p0).toInt64) 0 (-1)) (cwS 3 hts (gz_gS mGB_3 mGB_4 mGB_5 mGB_2 goodGB) rfl rfl rfl (by decide +kernel) ⟨Nat.le_of_ble_eq_true rfl, Nat.le_of_ble_eq_true rfl⟩) ⟨fun a U g mk q => by obtain ⟨q0, qP, qK⟩ := q; exact ⟨q0, qP, va_K.moved (u := U) (U := U.calling g mk a) (Vm.Alike.refl U.vm) qK⟩, fun U hU hW => ⟨rfl, by rw [hU]; exact hPc, va_K.moved hW.alike hKc⟩⟩ rfl rfl hl.1 rfl (lv_room (Nat.le_of_ble_eq_true rfl)) dX12_isPlace_10 ⟨Nat.zero_le _, Nat.zero_le _⟩) hS (fun q _ h => h.elim) (fun q h => h.elim) (fun r_1 u t H1 locs ht hvm hw hB hz1 hk1 hS => ?_)
  have hP := gz_keep hP hk1
  generalize H1 = H at hP hS ⊢
  rw [gz_in_none] at hw
  subst hw
  exact W.zret (v := 0) hx hb hr (by decide) (fun t ht hW => ⟨⟨0, (), rfl, rfl, trivial⟩, hS.F ht⟩) hS.2.2 dX12_isPlace_13
theorem dX12_isReport_0 : decode cX12_isReport 0 = .ok (.iload_n 1, 1) := by decide +kernel
theorem dX12_isReport_1 : decode cX12_isReport 1 = .ok (.i2l, 1) := by decide +kernel
theorem dX12_isReport_2 : decode cX12_isReport 2 = .ok (.lconst 0, 1) := by decide +kernel
theorem dX12_isReport_3 : decode cX12_isReport 3 = .ok (.aload_n 0, 1) := by decide +kernel
theorem dX12_isReport_4 : decode cX12_isReport 4 = .ok (.getfield 141, 3) := by decide +kernel
theorem dX12_isReport_7 : decode cX12_isReport 7 = .ok (.iconst 1, 1) := by decide +kernel
theorem dX12_isReport_8 : decode cX12_isReport 8 = .ok (.isub, 1) := by decide +kernel
theorem dX12_isReport_9 : decode cX12_isReport 9 = .ok (.i2l, 1) := by decide +kernel
theorem dX12_isReport_10 : decode cX12_isReport 10 = .ok (.invokestatic 102, 3) := by decide +kernel
theorem dX12_isReport_13 : decode cX12_isReport 13 = .ok (.ireturn, 1) := by decide +kernel

set_option maxHeartbeats 4000000 in
set_option maxRecDepth 100000 in
theorem fX12_isReport (l : Launch) (dC : Nat → ClassId) (dI : Nat → Nat → Nat) (h0 : Nat) (r : Nat → Nat) (p0 : Int32) : Met l yX12_isReport (.code yX12_isReport cX12_isReport 2 (some .boolean) :: wsGB) ({ frames := 1, cells := 0, slots := 0, locals := 25 }) (va_Pc [.ref h0, .int p0] (fun U => va_P (dC, dI) vwCl [(h0, .inr (12, fsM r))] U.heap ∧ va_K (dC, dI) vwCl [] U)) (va_Qi (fun (r : Int32) (u : Unit) => r = 0) (fun _ _ => True) (fun _ => False)) 0 0 (fun _ => False) := by
  refine Met.ofW (cc := cX12_isReport) (maxL := 2) (ret := (some .boolean)) (by decide) rfl ?_
  intro p e s m args below meth c s₁ B hml hv
  obtain ⟨rfl, hP, hK⟩ := hv
  have hx := B.exec
  have hb := B.bytes
  have hr := B.returns
  have hts := atoms_spec (ws := (.code yX12_isReport cX12_isReport 2 (some .boolean) :: wsGB)) B.pre
  have hown : s.vm.findClass RX12 = some m.cls := findClass_of_methodNamed B.named
  have hlocks := B.notSynchronized
  have hS : va_S (fun _ => False) s.heap s.heap [] := va_S.rf
  have hl := lv_entry ([.ref h0, .int p0]) (n := 2) (Nat.le_of_ble_eq_true rfl)
  rw [lg_entry_eq]
  generalize (lg_sl ([.ref h0, .int p0]) ++ List.replicate (2 - (lg_sl ([.ref h0, .int p0])).length) Slot.unset).toArray = ls at hl ⊢
  have hl : lv_has ls 2 [(0, .ref h0), (1, .int p0)] := hl
  refine lv_iload_n hx hb dX12_isReport_0 rfl (lv_at hl 1 rfl) ?_
  refine lv_i2l (v := (p0).toInt64) hx hb dX12_isReport_1 rfl ?_
  refine lv_lconst (v := 0) hx hb dX12_isReport_2 (by decide) ?_
  refine lv_aload_n hx hb dX12_isReport_3 rfl (lv_at hl 0 rfl) ?_
  refine va_get (D := (dC, dI)) (ci := 12) (v := .int 0) (C := RX12) (T := TX12) (N := 57) hx hb hts (fun w h => List.mem_cons_of_mem _ (jnGB_X12 w h)) hown hK hP 0 rfl rfl 10 (by decide) (hts _ (List.mem_cons_of_mem _ mGB_6)) (fun _ h9 => h9) rfl dX12_isReport_4 ?_
  refine lv_iconst (v := 1) hx hb dX12_isReport_7 (by decide) ?_
  refine lv_isub hx hb dX12_isReport_8 ?_
  refine gz_topi (y := (-1)) (by decide) ?_
  refine lv_i2l (v := (-1)) hx hb dX12_isReport_9 (by decide) ?_
  have hPc := hP.sub (ws' := []) [] rfl
  have hKc := hK.sub (tys' := []) [] rfl
  refine va_calli (va_runS (As := [.long ((p0).toInt64), .long 0, .long (-1)]) (rest := []) ⟨hx, hb, hml, hown, hts⟩ (fX12_in l dC dI ((p0).toInt64) 0 (-1)) (cwS 3 hts (gz_gS mGB_3 mGB_4 mGB_5 mGB_2 goodGB) rfl rfl rfl (by decide +kernel) ⟨Nat.le_of_ble_eq_true rfl, Nat.le_of_ble_eq_true rfl⟩) ⟨fun a U g mk q => by obtain ⟨q0, qP, qK⟩ := q; exact ⟨q0, qP, va_K.moved (u := U) (U := U.calling g mk a) (Vm.Alike.refl U.vm) qK⟩, fun U hU hW => ⟨rfl, by rw [hU]; exact hPc, va_K.moved hW.alike hKc⟩⟩ rfl rfl hl.1 rfl (lv_room (Nat.le_of_ble_eq_true rfl)) dX12_isReport_10 ⟨Nat.zero_le _, Nat.zero_le _⟩) hS (fun q _ h => h.elim) (fun q h => h.elim) (fun r_1 u t H1 locs ht hvm hw hB hz1 hk1 hS => ?_)
  have hP := gz_keep hP hk1
  generalize H1 = H at hP hS ⊢
  rw [gz_in_none] at hw
  subst hw
  exact W.zret (v := 0) hx hb hr (by decide) (fun t ht hW => ⟨⟨0, (), rfl, rfl, trivial⟩, hS.F ht⟩) hS.2.2 dX12_isReport_13
theorem dX12_isDeed_0 : decode cX12_isDeed 0 = .ok (.iload_n 1, 1) := by decide +kernel
theorem dX12_isDeed_1 : decode cX12_isDeed 1 = .ok (.i2l, 1) := by decide +kernel
theorem dX12_isDeed_2 : decode cX12_isDeed 2 = .ok (.lconst 0, 1) := by decide +kernel
theorem dX12_isDeed_3 : decode cX12_isDeed 3 = .ok (.aload_n 0, 1) := by decide +kernel
theorem dX12_isDeed_4 : decode cX12_isDeed 4 = .ok (.getfield 144, 3) := by decide +kernel
theorem dX12_isDeed_7 : decode cX12_isDeed 7 = .ok (.iconst 1, 1) := by decide +kernel
theorem dX12_isDeed_8 : decode cX12_isDeed 8 = .ok (.isub, 1) := by decide +kernel
theorem dX12_isDeed_9 : decode cX12_isDeed 9 = .ok (.i2l, 1) := by decide +kernel
theorem dX12_isDeed_10 : decode cX12_isDeed 10 = .ok (.invokestatic 102, 3) := by decide +kernel
theorem dX12_isDeed_13 : decode cX12_isDeed 13 = .ok (.ireturn, 1) := by decide +kernel

set_option maxHeartbeats 4000000 in
set_option maxRecDepth 100000 in
theorem fX12_isDeed (l : Launch) (dC : Nat → ClassId) (dI : Nat → Nat → Nat) (h0 : Nat) (r : Nat → Nat) (p0 : Int32) : Met l yX12_isDeed (.code yX12_isDeed cX12_isDeed 2 (some .boolean) :: wsGB) ({ frames := 1, cells := 0, slots := 0, locals := 25 }) (va_Pc [.ref h0, .int p0] (fun U => va_P (dC, dI) vwCl [(h0, .inr (12, fsM r))] U.heap ∧ va_K (dC, dI) vwCl [] U)) (va_Qi (fun (r : Int32) (u : Unit) => r = 0) (fun _ _ => True) (fun _ => False)) 0 0 (fun _ => False) := by
  refine Met.ofW (cc := cX12_isDeed) (maxL := 2) (ret := (some .boolean)) (by decide) rfl ?_
  intro p e s m args below meth c s₁ B hml hv
  obtain ⟨rfl, hP, hK⟩ := hv
  have hx := B.exec
  have hb := B.bytes
  have hr := B.returns
  have hts := atoms_spec (ws := (.code yX12_isDeed cX12_isDeed 2 (some .boolean) :: wsGB)) B.pre
  have hown : s.vm.findClass RX12 = some m.cls := findClass_of_methodNamed B.named
  have hlocks := B.notSynchronized
  have hS : va_S (fun _ => False) s.heap s.heap [] := va_S.rf
  have hl := lv_entry ([.ref h0, .int p0]) (n := 2) (Nat.le_of_ble_eq_true rfl)
  rw [lg_entry_eq]
  generalize (lg_sl ([.ref h0, .int p0]) ++ List.replicate (2 - (lg_sl ([.ref h0, .int p0])).length) Slot.unset).toArray = ls at hl ⊢
  have hl : lv_has ls 2 [(0, .ref h0), (1, .int p0)] := hl
  refine lv_iload_n hx hb dX12_isDeed_0 rfl (lv_at hl 1 rfl) ?_
  refine lv_i2l (v := (p0).toInt64) hx hb dX12_isDeed_1 rfl ?_
  refine lv_lconst (v := 0) hx hb dX12_isDeed_2 (by decide) ?_
  refine lv_aload_n hx hb dX12_isDeed_3 rfl (lv_at hl 0 rfl) ?_
  refine va_get (D := (dC, dI)) (ci := 12) (v := .int 0) (C := RX12) (T := TX12) (N := 57) hx hb hts (fun w h => List.mem_cons_of_mem _ (jnGB_X12 w h)) hown hK hP 0 rfl rfl 17 (by decide) (hts _ (List.mem_cons_of_mem _ mGB_7)) (fun _ h9 => h9) rfl dX12_isDeed_4 ?_
  refine lv_iconst (v := 1) hx hb dX12_isDeed_7 (by decide) ?_
  refine lv_isub hx hb dX12_isDeed_8 ?_
  refine gz_topi (y := (-1)) (by decide) ?_
  refine lv_i2l (v := (-1)) hx hb dX12_isDeed_9 (by decide) ?_
  have hPc := hP.sub (ws' := []) [] rfl
  have hKc := hK.sub (tys' := []) [] rfl
  refine va_calli (va_runS (As := [.long ((p0).toInt64), .long 0, .long (-1)]) (rest := []) ⟨hx, hb, hml, hown, hts⟩ (fX12_in l dC dI ((p0).toInt64) 0 (-1)) (cwS 3 hts (gz_gS mGB_3 mGB_4 mGB_5 mGB_2 goodGB) rfl rfl rfl (by decide +kernel) ⟨Nat.le_of_ble_eq_true rfl, Nat.le_of_ble_eq_true rfl⟩) ⟨fun a U g mk q => by obtain ⟨q0, qP, qK⟩ := q; exact ⟨q0, qP, va_K.moved (u := U) (U := U.calling g mk a) (Vm.Alike.refl U.vm) qK⟩, fun U hU hW => ⟨rfl, by rw [hU]; exact hPc, va_K.moved hW.alike hKc⟩⟩ rfl rfl hl.1 rfl (lv_room (Nat.le_of_ble_eq_true rfl)) dX12_isDeed_10 ⟨Nat.zero_le _, Nat.zero_le _⟩) hS (fun q _ h => h.elim) (fun q h => h.elim) (fun r_1 u t H1 locs ht hvm hw hB hz1 hk1 hS => ?_)
  have hP := gz_keep hP hk1
  generalize H1 = H at hP hS ⊢
  rw [gz_in_none] at hw
  subst hw
  exact W.zret (v := 0) hx hb hr (by decide) (fun t ht hW => ⟨⟨0, (), rfl, rfl, trivial⟩, hS.F ht⟩) hS.2.2 dX12_isDeed_13
end
section
theorem dX12_init_0 : decode cX12_init 0 = .ok (.aload_n 0, 1) := by decide +kernel
theorem dX12_init_1 : decode cX12_init 1 = .ok (.invokespecial 1, 3) := by decide +kernel
theorem dX12_init_4 : decode cX12_init 4 = .ok (.aload_n 0, 1) := by decide +kernel
theorem dX12_init_5 : decode cX12_init 5 = .ok (.bipush 6, 2) := by decide +kernel
theorem dX12_init_7 : decode cX12_init 7 = .ok (.newarray .int, 2) := by decide +kernel
theorem dX12_init_9 : decode cX12_init 9 = .ok (.putfield 7, 3) := by decide +kernel
theorem dX12_init_12 : decode cX12_init 12 = .ok (.aload_n 0, 1) := by decide +kernel
theorem dX12_init_13 : decode cX12_init 13 = .ok (.bipush 36, 2) := by decide +kernel
theorem dX12_init_15 : decode cX12_init 15 = .ok (.newarray .int, 2) := by decide +kernel
theorem dX12_init_17 : decode cX12_init 17 = .ok (.putfield 13, 3) := by decide +kernel
theorem dX12_init_20 : decode cX12_init 20 = .ok (.aload_n 0, 1) := by decide +kernel
theorem dX12_init_21 : decode cX12_init 21 = .ok (.bipush 24, 2) := by decide +kernel
theorem dX12_init_23 : decode cX12_init 23 = .ok (.newarray .int, 2) := by decide +kernel
theorem dX12_init_25 : decode cX12_init 25 = .ok (.putfield 16, 3) := by decide +kernel
theorem dX12_init_28 : decode cX12_init 28 = .ok (.aload_n 0, 1) := by decide +kernel
theorem dX12_init_29 : decode cX12_init 29 = .ok (.bipush 24, 2) := by decide +kernel
theorem dX12_init_31 : decode cX12_init 31 = .ok (.newarray .int, 2) := by decide +kernel
theorem dX12_init_33 : decode cX12_init 33 = .ok (.putfield 19, 3) := by decide +kernel
theorem dX12_init_36 : decode cX12_init 36 = .ok (.aload_n 0, 1) := by decide +kernel
theorem dX12_init_37 : decode cX12_init 37 = .ok (.bipush 24, 2) := by decide +kernel
theorem dX12_init_39 : decode cX12_init 39 = .ok (.newarray .boolean, 2) := by decide +kernel
theorem dX12_init_41 : decode cX12_init 41 = .ok (.putfield 22, 3) := by decide +kernel
theorem dX12_init_44 : decode cX12_init 44 = .ok (.aload_n 0, 1) := by decide +kernel
theorem dX12_init_45 : decode cX12_init 45 = .ok (.bipush 24, 2) := by decide +kernel
theorem dX12_init_47 : decode cX12_init 47 = .ok (.newarray .int, 2) := by decide +kernel
theorem dX12_init_49 : decode cX12_init 49 = .ok (.putfield 26, 3) := by decide +kernel
theorem dX12_init_52 : decode cX12_init 52 = .ok (.aload_n 0, 1) := by decide +kernel
theorem dX12_init_53 : decode cX12_init 53 = .ok (.bipush 24, 2) := by decide +kernel
theorem dX12_init_55 : decode cX12_init 55 = .ok (.newarray .int, 2) := by decide +kernel
theorem dX12_init_57 : decode cX12_init 57 = .ok (.putfield 29, 3) := by decide +kernel
theorem dX12_init_60 : decode cX12_init 60 = .ok (.aload_n 0, 1) := by decide +kernel
theorem dX12_init_61 : decode cX12_init 61 = .ok (.bipush 24, 2) := by decide +kernel
theorem dX12_init_63 : decode cX12_init 63 = .ok (.newarray .int, 2) := by decide +kernel
theorem dX12_init_65 : decode cX12_init 65 = .ok (.putfield 32, 3) := by decide +kernel
theorem dX12_init_68 : decode cX12_init 68 = .ok (.aload_n 0, 1) := by decide +kernel
theorem dX12_init_69 : decode cX12_init 69 = .ok (.bipush 8, 2) := by decide +kernel
theorem dX12_init_71 : decode cX12_init 71 = .ok (.newarray .int, 2) := by decide +kernel
theorem dX12_init_73 : decode cX12_init 73 = .ok (.putfield 35, 3) := by decide +kernel
theorem dX12_init_76 : decode cX12_init 76 = .ok (.aload_n 0, 1) := by decide +kernel
theorem dX12_init_77 : decode cX12_init 77 = .ok (.bipush 8, 2) := by decide +kernel
theorem dX12_init_79 : decode cX12_init 79 = .ok (.newarray .int, 2) := by decide +kernel
theorem dX12_init_81 : decode cX12_init 81 = .ok (.putfield 38, 3) := by decide +kernel
theorem dX12_init_84 : decode cX12_init 84 = .ok (.aload_n 0, 1) := by decide +kernel
theorem dX12_init_85 : decode cX12_init 85 = .ok (.bipush 8, 2) := by decide +kernel
theorem dX12_init_87 : decode cX12_init 87 = .ok (.newarray .int, 2) := by decide +kernel
theorem dX12_init_89 : decode cX12_init 89 = .ok (.putfield 41, 3) := by decide +kernel
theorem dX12_init_92 : decode cX12_init 92 = .ok (.aload_n 0, 1) := by decide +kernel
theorem dX12_init_93 : decode cX12_init 93 = .ok (.bipush 8, 2) := by decide +kernel
theorem dX12_init_95 : decode cX12_init 95 = .ok (.newarray .int, 2) := by decide +kernel
theorem dX12_init_97 : decode cX12_init 97 = .ok (.putfield 44, 3) := by decide +kernel
theorem dX12_init_100 : decode cX12_init 100 = .ok (.aload_n 0, 1) := by decide +kernel
theorem dX12_init_101 : decode cX12_init 101 = .ok (.sipush 300, 3) := by decide +kernel
theorem dX12_init_104 : decode cX12_init 104 = .ok (.newarray .int, 2) := by decide +kernel
theorem dX12_init_106 : decode cX12_init 106 = .ok (.putfield 47, 3) := by decide +kernel
theorem dX12_init_109 : decode cX12_init 109 = .ok (.aload_n 0, 1) := by decide +kernel
theorem dX12_init_110 : decode cX12_init 110 = .ok (.sipush 1600, 3) := by decide +kernel
theorem dX12_init_113 : decode cX12_init 113 = .ok (.newarray .int, 2) := by decide +kernel
theorem dX12_init_115 : decode cX12_init 115 = .ok (.putfield 50, 3) := by decide +kernel
theorem dX12_init_118 : decode cX12_init 118 = .ok (.aload_n 0, 1) := by decide +kernel
theorem dX12_init_119 : decode cX12_init 119 = .ok (.iconst (-1), 1) := by decide +kernel
theorem dX12_init_120 : decode cX12_init 120 = .ok (.putfield 53, 3) := by decide +kernel
theorem dX12_init_123 : decode cX12_init 123 = .ok (.aload_n 0, 1) := by decide +kernel
theorem dX12_init_124 : decode cX12_init 124 = .ok (.bipush 25, 2) := by decide +kernel
theorem dX12_init_126 : decode cX12_init 126 = .ok (.newarray .int, 2) := by decide +kernel
theorem dX12_init_128 : decode cX12_init 128 = .ok (.putfield 57, 3) := by decide +kernel
theorem dX12_init_131 : decode cX12_init 131 = .ok (.aload_n 0, 1) := by decide +kernel
theorem dX12_init_132 : decode cX12_init 132 = .ok (.bipush 25, 2) := by decide +kernel
theorem dX12_init_134 : decode cX12_init 134 = .ok (.newarray .int, 2) := by decide +kernel
theorem dX12_init_136 : decode cX12_init 136 = .ok (.putfield 60, 3) := by decide +kernel
theorem dX12_init_139 : decode cX12_init 139 = .ok (.aload_n 0, 1) := by decide +kernel
theorem dX12_init_140 : decode cX12_init 140 = .ok (.bipush 25, 2) := by decide +kernel
theorem dX12_init_142 : decode cX12_init 142 = .ok (.newarray .int, 2) := by decide +kernel
theorem dX12_init_144 : decode cX12_init 144 = .ok (.putfield 63, 3) := by decide +kernel
theorem dX12_init_147 : decode cX12_init 147 = .ok (.aload_n 0, 1) := by decide +kernel
theorem dX12_init_148 : decode cX12_init 148 = .ok (.sipush 6875, 3) := by decide +kernel
theorem dX12_init_151 : decode cX12_init 151 = .ok (.newarray .int, 2) := by decide +kernel
theorem dX12_init_153 : decode cX12_init 153 = .ok (.putfield 66, 3) := by decide +kernel
theorem dX12_init_156 : decode cX12_init 156 = .ok (.aload_n 0, 1) := by decide +kernel
theorem dX12_init_157 : decode cX12_init 157 = .ok (.bipush 24, 2) := by decide +kernel
theorem dX12_init_159 : decode cX12_init 159 = .ok (.newarray .int, 2) := by decide +kernel
theorem dX12_init_161 : decode cX12_init 161 = .ok (.putfield 69, 3) := by decide +kernel
theorem dX12_init_164 : decode cX12_init 164 = .ok (.aload_n 0, 1) := by decide +kernel
theorem dX12_init_165 : decode cX12_init 165 = .ok (.bipush 24, 2) := by decide +kernel
theorem dX12_init_167 : decode cX12_init 167 = .ok (.newarray .int, 2) := by decide +kernel
theorem dX12_init_169 : decode cX12_init 169 = .ok (.putfield 72, 3) := by decide +kernel
theorem dX12_init_172 : decode cX12_init 172 = .ok (.aload_n 0, 1) := by decide +kernel
theorem dX12_init_173 : decode cX12_init 173 = .ok (.iconst (-1), 1) := by decide +kernel
theorem dX12_init_174 : decode cX12_init 174 = .ok (.putfield 75, 3) := by decide +kernel
theorem dX12_init_177 : decode cX12_init 177 = .ok (.aload_n 0, 1) := by decide +kernel
theorem dX12_init_178 : decode cX12_init 178 = .ok (.iconst (-1), 1) := by decide +kernel
theorem dX12_init_179 : decode cX12_init 179 = .ok (.putfield 78, 3) := by decide +kernel
theorem dX12_init_182 : decode cX12_init 182 = .ok (.aload_n 0, 1) := by decide +kernel
theorem dX12_init_183 : decode cX12_init 183 = .ok (.iconst (-1), 1) := by decide +kernel
theorem dX12_init_184 : decode cX12_init 184 = .ok (.putfield 81, 3) := by decide +kernel
theorem dX12_init_187 : decode cX12_init 187 = .ok (.aload_n 0, 1) := by decide +kernel
theorem dX12_init_188 : decode cX12_init 188 = .ok (.iconst (-1), 1) := by decide +kernel
theorem dX12_init_189 : decode cX12_init 189 = .ok (.putfield 84, 3) := by decide +kernel
theorem dX12_init_192 : decode cX12_init 192 = .ok (.aload_n 0, 1) := by decide +kernel
theorem dX12_init_193 : decode cX12_init 193 = .ok (.bipush 25, 2) := by decide +kernel
theorem dX12_init_195 : decode cX12_init 195 = .ok (.newarray .int, 2) := by decide +kernel
theorem dX12_init_197 : decode cX12_init 197 = .ok (.putfield 87, 3) := by decide +kernel
theorem dX12_init_200 : decode cX12_init 200 = .ok (.aload_n 0, 1) := by decide +kernel
theorem dX12_init_201 : decode cX12_init 201 = .ok (.bipush 25, 2) := by decide +kernel
theorem dX12_init_203 : decode cX12_init 203 = .ok (.newarray .int, 2) := by decide +kernel
theorem dX12_init_205 : decode cX12_init 205 = .ok (.putfield 90, 3) := by decide +kernel
theorem dX12_init_208 : decode cX12_init 208 = .ok (.aload_n 0, 1) := by decide +kernel
theorem dX12_init_209 : decode cX12_init 209 = .ok (.sipush 6875, 3) := by decide +kernel
theorem dX12_init_212 : decode cX12_init 212 = .ok (.newarray .int, 2) := by decide +kernel
theorem dX12_init_214 : decode cX12_init 214 = .ok (.putfield 93, 3) := by decide +kernel
theorem dX12_init_217 : decode cX12_init 217 = .ok (.aload_n 0, 1) := by decide +kernel
theorem dX12_init_218 : decode cX12_init 218 = .ok (.bipush 80, 2) := by decide +kernel
theorem dX12_init_220 : decode cX12_init 220 = .ok (.newarray .int, 2) := by decide +kernel
theorem dX12_init_222 : decode cX12_init 222 = .ok (.putfield 96, 3) := by decide +kernel
theorem dX12_init_225 : decode cX12_init 225 = .ok (.return_, 1) := by decide +kernel
set_option maxHeartbeats 4000000 in
set_option maxRecDepth 100000 in
theorem fX12_init (l : Launch) (dC : Nat → ClassId) (dI : Nat → Nat → Nat) (sz : Nat) (h0 : Nat) : Met l yX12_init (.code yX12_init cX12_init 1 none :: wsGB) ({ frames := 1, cells := 24, slots := 16121, locals := 12 }) (va_Pc [.ref h0] (fun U => U.heap.size = sz ∧ va_P (dC, dI) vwCl [(h0, .inr (12, [.int 0, .int 0, .int 0, .int 0, .int 0, .int 0, .int 0, .int 0, .null, .null, .int 0, .null, .null, .null, .null, .null, .null, .int 0, .null, .null, .null, .null, .null, .int 0, .int 0, .null, .int 0, .int 0, .int 0, .int 0, .int 0, .int 0, .int 0, .int 0, .null, .null, .null, .int 0, .null, .null, .null, .int 0, .int 0, .int 0, .int 0, .int 0, .null, .int 0, .int 0, .int 0, .int 0, .int 0, .null, .null, .int 0, .null, .int 0]))] U.heap ∧ va_K (dC, dI) vwCl [] U ∧ va_D (fun _ => True) [(h0, .inr (12, [.int 0, .int 0, .int 0, .int 0, .int 0, .int 0, .int 0, .int 0, .null, .null, .int 0, .null, .null, .null, .null, .null, .null, .int 0, .null, .null, .null, .null, .null, .int 0, .int 0, .null, .int 0, .int 0, .int 0, .int 0, .int 0, .int 0, .int 0, .int 0, .null, .null, .null, .int 0, .null, .null, .null, .int 0, .int 0, .int 0, .int 0, .int 0, .null, .int 0, .int 0, .int 0, .int 0, .int 0, .null, .null, .int 0, .null, .int 0]))])) (va_Qv (fun (u : Unit) => True) (fun _ t => ∃ (r : Nat → Nat) (kf : Nat → ClassId), va_P (dC, dI) vwCl [(h0, .inr (12, fsM r)), ((r 0), .inl ((kf 0), 6, .inl (fun _ => 0))), ((r 1), .inl ((kf 1), 36, .inl (fun _ => 0))), ((r 2), .inl ((kf 2), 24, .inl (fun _ => 0))), ((r 3), .inl ((kf 3), 24, .inl (fun _ => 0))), ((r 5), .inl ((kf 5), 24, .inl (fun _ => 0))), ((r 6), .inl ((kf 6), 24, .inl (fun _ => 0))), ((r 7), .inl ((kf 7), 24, .inl (fun _ => 0))), ((r 8), .inl ((kf 8), 8, .inl (fun _ => 0))), ((r 9), .inl ((kf 9), 8, .inl (fun _ => 0))), ((r 10), .inl ((kf 10), 8, .inl (fun _ => 0))), ((r 11), .inl ((kf 11), 8, .inl (fun _ => 0))), ((r 4), .inl ((kf 4), 24, .inl (fun _ => 0))), ((r 12), .inl ((kf 12), 300, .inl (fun _ => 0))), ((r 13), .inl ((kf 13), 1600, .inl (fun _ => 0)))] t.heap ∧ va_K (dC, dI) vwCl [((kf 0), .int), ((kf 1), .int), ((kf 2), .int), ((kf 3), .int), ((kf 5), .int), ((kf 6), .int), ((kf 7), .int), ((kf 8), .int), ((kf 9), .int), ((kf 10), .int), ((kf 11), .int), ((kf 4), .boolean), ((kf 12), .int), ((kf 13), .int)] t ∧ va_D (va_A [(h0, .inr (12, [.int 0, .int 0, .int 0, .int 0, .int 0, .int 0, .int 0, .int 0, .null, .null, .int 0, .null, .null, .null, .null, .null, .null, .int 0, .null, .null, .null, .null, .null, .int 0, .int 0, .null, .int 0, .int 0, .int 0, .int 0, .int 0, .int 0, .int 0, .int 0, .null, .null, .null, .int 0, .null, .null, .null, .int 0, .int 0, .int 0, .int 0, .int 0, .null, .int 0, .int 0, .int 0, .int 0, .int 0, .null, .null, .int 0, .null, .int 0]))] sz) [(h0, .inr (12, fsM r)), ((r 0), .inl ((kf 0), 6, .inl (fun _ => 0))), ((r 1), .inl ((kf 1), 36, .inl (fun _ => 0))), ((r 2), .inl ((kf 2), 24, .inl (fun _ => 0))), ((r 3), .inl ((kf 3), 24, .inl (fun _ => 0))), ((r 5), .inl ((kf 5), 24, .inl (fun _ => 0))), ((r 6), .inl ((kf 6), 24, .inl (fun _ => 0))), ((r 7), .inl ((kf 7), 24, .inl (fun _ => 0))), ((r 8), .inl ((kf 8), 8, .inl (fun _ => 0))), ((r 9), .inl ((kf 9), 8, .inl (fun _ => 0))), ((r 10), .inl ((kf 10), 8, .inl (fun _ => 0))), ((r 11), .inl ((kf 11), 8, .inl (fun _ => 0))), ((r 4), .inl ((kf 4), 24, .inl (fun _ => 0))), ((r 12), .inl ((kf 12), 300, .inl (fun _ => 0))), ((r 13), .inl ((kf 13), 1600, .inl (fun _ => 0)))]) (va_A [(h0, .inr (12, [.int 0, .int 0, .int 0, .int 0, .int 0, .int 0, .int 0, .int 0, .null, .null, .int 0, .null, .null, .null, .null, .null, .null, .int 0, .null, .null, .null, .null, .null, .int 0, .int 0, .null, .int 0, .int 0, .int 0, .int 0, .int 0, .int 0, .int 0, .int 0, .null, .null, .null, .int 0, .null, .null, .null, .int 0, .int 0, .int 0, .int 0, .int 0, .null, .int 0, .int 0, .int 0, .int 0, .int 0, .null, .null, .int 0, .null, .int 0]))] sz)) 24 16121 (va_A [(h0, .inr (12, [.int 0, .int 0, .int 0, .int 0, .int 0, .int 0, .int 0, .int 0, .null, .null, .int 0, .null, .null, .null, .null, .null, .null, .int 0, .null, .null, .null, .null, .null, .int 0, .int 0, .null, .int 0, .int 0, .int 0, .int 0, .int 0, .int 0, .int 0, .int 0, .null, .null, .null, .int 0, .null, .null, .null, .int 0, .int 0, .int 0, .int 0, .int 0, .null, .int 0, .int 0, .int 0, .int 0, .int 0, .null, .null, .int 0, .null, .int 0]))] sz) := by
  refine Met.ofW (cc := cX12_init) (maxL := 1) (ret := none) (by decide) rfl ?_
  intro p e s m args below meth c s₁ B hml hv
  obtain ⟨rfl, hsz, hP, hK, hD0⟩ := hv
  have hx := B.exec
  have hb := B.bytes
  have hr := B.returns
  have hts := atoms_spec (ws := (.code yX12_init cX12_init 1 none :: wsGB)) B.pre
  have hown : s.vm.findClass RX12 = some m.cls := findClass_of_methodNamed B.named
  have hlocks := B.notSynchronized
  have hin : meth.name = "<init>" := (name_of_methodNamed B.named B.method).1
  subst hsz
  have hD := hD0.self (sz := s.heap.size)
  generalize hAe : va_A [(h0, .inr (12, [.int 0, .int 0, .int 0, .int 0, .int 0, .int 0, .int 0, .int 0, .null, .null, .int 0, .null, .null, .null, .null, .null, .null, .int 0, .null, .null, .null, .null, .null, .int 0, .int 0, .null, .int 0, .int 0, .int 0, .int 0, .int 0, .int 0, .int 0, .int 0, .null, .null, .null, .int 0, .null, .null, .null, .int 0, .int 0, .int 0, .int 0, .int 0, .null, .int 0, .int 0, .int 0, .int 0, .int 0, .null, .null, .int 0, .null, .int 0]))] s.heap.size = A at hD ⊢
  have hA : ∀ q : Nat, s.heap.size ≤ q → A q := fun q h => by rw [← hAe]; exact Or.inr h
  have hS : va_S A s.heap s.heap [] := va_S.rf
  have hl := lv_entry ([.ref h0]) (n := 1) (Nat.le_of_ble_eq_true rfl)
  rw [lg_entry_eq]
  generalize (lg_sl ([.ref h0]) ++ List.replicate (1 - (lg_sl ([.ref h0])).length) Slot.unset).toArray = ls at hl ⊢
  have hl : lv_has ls 1 [(0, .ref h0)] := hl
  refine lv_aload_n hx hb dX12_init_0 rfl (lv_at hl 0 rfl) ?_
  refine W.objInit hx hb hown (hts _ (List.mem_cons_of_mem _ mGB_34)) (hts _ (List.mem_cons_of_mem _ mGB_35)) (hts _ (List.mem_cons_of_mem _ mGB_36)) rfl (by rw [hml]; exact hl.1) rfl dX12_init_1 (Nat.le_of_ble_eq_true rfl) (Nat.le_of_ble_eq_true rfl) ?_
  refine W.eq (g2 := F0 m 4 ls []) rfl ?_
  refine lv_aload_n hx hb dX12_init_4 rfl (lv_at hl 0 rfl) ?_
  refine lv_bipush (v := 6) hx hb dX12_init_5 (by decide) ?_
  refine va_newa (atype := .int) (ty := .int) (a0 := (6, .inl (fun _ => 0))) hx hb (hts _ (List.mem_cons_of_mem _ mGB_37)) rfl hK hP hD hS hA (fun _ => rfl) (by decide) (by decide) (Nat.le_of_ble_eq_true rfl) (Nat.le_of_ble_eq_true rfl) (Nat.le_of_ble_eq_true rfl) dX12_init_7 (fun q_1 k_2 H hK hP hD hS => ?_)
  have hP : va_P (dC, dI) vwCl [(h0, .inr (12, [.int 0, .int 0, .int 0, .int 0, .int 0, .int 0, .int 0, .int 0, .null, .null, .int 0, .null, .null, .null, .null, .null, .null, .int 0, .null, .null, .null, .null, .null, .int 0, .int 0, .null, .int 0, .int 0, .int 0, .int 0, .int 0, .int 0, .int 0, .int 0, .null, .null, .null, .int 0, .null, .null, .null, .int 0, .int 0, .int 0, .int 0, .int 0, .null, .int 0, .int 0, .int 0, .int 0, .int 0, .null, .null, .int 0, .null, .int 0])), (q_1, .inl (k_2, 6, .inl (fun _ => 0)))] H := hP
  have hD : va_D A [(h0, .inr (12, [.int 0, .int 0, .int 0, .int 0, .int 0, .int 0, .int 0, .int 0, .null, .null, .int 0, .null, .null, .null, .null, .null, .null, .int 0, .null, .null, .null, .null, .null, .int 0, .int 0, .null, .int 0, .int 0, .int 0, .int 0, .int 0, .int 0, .int 0, .int 0, .null, .null, .null, .int 0, .null, .null, .null, .int 0, .int 0, .int 0, .int 0, .int 0, .null, .int 0, .int 0, .int 0, .int 0, .int 0, .null, .null, .int 0, .null, .int 0])), (q_1, .inl (k_2, 6, .inl (fun _ => 0)))] := hD
  have hK : va_K (dC, dI) vwCl [(k_2, .int)] s := hK
  refine W.widen (k := 1) (n := 6) (Nat.le_of_ble_eq_true rfl) (Nat.le_of_ble_eq_true rfl) ?_
  refine va_putF (D := (dC, dI)) (ci := 12) (v := .ref q_1) (ty := .array .int) (C := RX12) (T := TX12) (N := 57) hx hb hts (fun w h => List.mem_cons_of_mem _ (jnGB_X12 w h)) tyX12 tyX12_ok nmX12 hown hK hP hD hS 0 rfl rfl 8 (by decide) (hts _ (List.mem_cons_of_mem _ mGB_38)) (fun _ h9 => h9) rfl hin rfl (by decide +kernel) rfl rfl (Nat.le_of_ble_eq_true rfl) dX12_init_9 (fun H locs hP hD hS => ?_)
  have hP : va_P (dC, dI) vwCl [(h0, .inr (12, [.int 0, .int 0, .int 0, .int 0, .int 0, .int 0, .int 0, .int 0, .ref q_1, .null, .int 0, .null, .null, .null, .null, .null, .null, .int 0, .null, .null, .null, .null, .null, .int 0, .int 0, .null, .int 0, .int 0, .int 0, .int 0, .int 0, .int 0, .int 0, .int 0, .null, .null, .null, .int 0, .null, .null, .null, .int 0, .int 0, .int 0, .int 0, .int 0, .null, .int 0, .int 0, .int 0, .int 0, .int 0, .null, .null, .int 0, .null, .int 0])), (q_1, .inl (k_2, 6, .inl (fun _ => 0)))] H := hP
  have hD : va_D A [(h0, .inr (12, [.int 0, .int 0, .int 0, .int 0, .int 0, .int 0, .int 0, .int 0, .ref q_1, .null, .int 0, .null, .null, .null, .null, .null, .null, .int 0, .null, .null, .null, .null, .null, .int 0, .int 0, .null, .int 0, .int 0, .int 0, .int 0, .int 0, .int 0, .int 0, .int 0, .null, .null, .null, .int 0, .null, .null, .null, .int 0, .int 0, .int 0, .int 0, .int 0, .null, .int 0, .int 0, .int 0, .int 0, .int 0, .null, .null, .int 0, .null, .int 0])), (q_1, .inl (k_2, 6, .inl (fun _ => 0)))] := hD
  refine lv_aload_n hx hb dX12_init_12 rfl (lv_at hl 0 rfl) ?_
  refine lv_bipush (v := 36) hx hb dX12_init_13 (by decide) ?_
  refine va_newa (atype := .int) (ty := .int) (a0 := (36, .inl (fun _ => 0))) hx hb (hts _ (List.mem_cons_of_mem _ mGB_37)) rfl hK hP hD hS hA (fun _ => rfl) (by decide) (by decide) (Nat.le_of_ble_eq_true rfl) (Nat.le_of_ble_eq_true rfl) (Nat.le_of_ble_eq_true rfl) dX12_init_15 (fun q_3 k_4 H hK hP hD hS => ?_)
  have hP : va_P (dC, dI) vwCl [(h0, .inr (12, [.int 0, .int 0, .int 0, .int 0, .int 0, .int 0, .int 0, .int 0, .ref q_1, .null, .int 0, .null, .null, .null, .null, .null, .null, .int 0, .null, .null, .null, .null, .null, .int 0, .int 0, .null, .int 0, .int 0, .int 0, .int 0, .int 0, .int 0, .int 0, .int 0, .null, .null, .null, .int 0, .null, .null, .null, .int 0, .int 0, .int 0, .int 0, .int 0, .null, .int 0, .int 0, .int 0, .int 0, .int 0, .null, .null, .int 0, .null, .int 0])), (q_1, .inl (k_2, 6, .inl (fun _ => 0))), (q_3, .inl (k_4, 36, .inl (fun _ => 0)))] H := hP
  have hD : va_D A [(h0, .inr (12, [.int 0, .int 0, .int 0, .int 0, .int 0, .int 0, .int 0, .int 0, .ref q_1, .null, .int 0, .null, .null, .null, .null, .null, .null, .int 0, .null, .null, .null, .null, .null, .int 0, .int 0, .null, .int 0, .int 0, .int 0, .int 0, .int 0, .int 0, .int 0, .int 0, .null, .null, .null, .int 0, .null, .null, .null, .int 0, .int 0, .int 0, .int 0, .int 0, .null, .int 0, .int 0, .int 0, .int 0, .int 0, .null, .null, .int 0, .null, .int 0])), (q_1, .inl (k_2, 6, .inl (fun _ => 0))), (q_3, .inl (k_4, 36, .inl (fun _ => 0)))] := hD
  have hK : va_K (dC, dI) vwCl [(k_2, .int), (k_4, .int)] s := hK
  refine W.widen (k := 2) (n := 42) (Nat.le_of_ble_eq_true rfl) (Nat.le_of_ble_eq_true rfl) ?_
  refine va_putF (D := (dC, dI)) (ci := 12) (v := .ref q_3) (ty := .array .int) (C := RX12) (T := TX12) (N := 57) hx hb hts (fun w h => List.mem_cons_of_mem _ (jnGB_X12 w h)) tyX12 tyX12_ok nmX12 hown hK hP hD hS 0 rfl rfl 9 (by decide) (hts _ (List.mem_cons_of_mem _ mGB_39)) (fun _ h9 => h9) rfl hin rfl (by decide +kernel) rfl rfl (Nat.le_of_ble_eq_true rfl) dX12_init_17 (fun H locs hP hD hS => ?_)
  have hP : va_P (dC, dI) vwCl [(h0, .inr (12, [.int 0, .int 0, .int 0, .int 0, .int 0, .int 0, .int 0, .int 0, .ref q_1, .ref q_3, .int 0, .null, .null, .null, .null, .null, .null, .int 0, .null, .null, .null, .null, .null, .int 0, .int 0, .null, .int 0, .int 0, .int 0, .int 0, .int 0, .int 0, .int 0, .int 0, .null, .null, .null, .int 0, .null, .null, .null, .int 0, .int 0, .int 0, .int 0, .int 0, .null, .int 0, .int 0, .int 0, .int 0, .int 0, .null, .null, .int 0, .null, .int 0])), (q_1, .inl (k_2, 6, .inl (fun _ => 0))), (q_3, .inl (k_4, 36, .inl (fun _ => 0)))] H := hP
  have hD : va_D A [(h0, .inr (12, [.int 0, .int 0, .int 0, .int 0, .int 0, .int 0, .int 0, .int 0, .ref q_1, .ref q_3, .int 0, .null, .null, .null, .null, .null, .null, .int 0, .null, .null, .null, .null, .null, .int 0, .int 0, .null, .int 0, .int 0, .int 0, .int 0, .int 0, .int 0, .int 0, .int 0, .null, .null, .null, .int 0, .null, .null, .null, .int 0, .int 0, .int 0, .int 0, .int 0, .null, .int 0, .int 0, .int 0, .int 0, .int 0, .null, .null, .int 0, .null, .int 0])), (q_1, .inl (k_2, 6, .inl (fun _ => 0))), (q_3, .inl (k_4, 36, .inl (fun _ => 0)))] := hD
  refine lv_aload_n hx hb dX12_init_20 rfl (lv_at hl 0 rfl) ?_
  refine lv_bipush (v := 24) hx hb dX12_init_21 (by decide) ?_
  refine va_newa (atype := .int) (ty := .int) (a0 := (24, .inl (fun _ => 0))) hx hb (hts _ (List.mem_cons_of_mem _ mGB_37)) rfl hK hP hD hS hA (fun _ => rfl) (by decide) (by decide) (Nat.le_of_ble_eq_true rfl) (Nat.le_of_ble_eq_true rfl) (Nat.le_of_ble_eq_true rfl) dX12_init_23 (fun q_5 k_6 H hK hP hD hS => ?_)
  have hP : va_P (dC, dI) vwCl [(h0, .inr (12, [.int 0, .int 0, .int 0, .int 0, .int 0, .int 0, .int 0, .int 0, .ref q_1, .ref q_3, .int 0, .null, .null, .null, .null, .null, .null, .int 0, .null, .null, .null, .null, .null, .int 0, .int 0, .null, .int 0, .int 0, .int 0, .int 0, .int 0, .int 0, .int 0, .int 0, .null, .null, .null, .int 0, .null, .null, .null, .int 0, .int 0, .int 0, .int 0, .int 0, .null, .int 0, .int 0, .int 0, .int 0, .int 0, .null, .null, .int 0, .null, .int 0])), (q_1, .inl (k_2, 6, .inl (fun _ => 0))), (q_3, .inl (k_4, 36, .inl (fun _ => 0))), (q_5, .inl (k_6, 24, .inl (fun _ => 0)))] H := hP
  have hD : va_D A [(h0, .inr (12, [.int 0, .int 0, .int 0, .int 0, .int 0, .int 0, .int 0, .int 0, .ref q_1, .ref q_3, .int 0, .null, .null, .null, .null, .null, .null, .int 0, .null, .null, .null, .null, .null, .int 0, .int 0, .null, .int 0, .int 0, .int 0, .int 0, .int 0, .int 0, .int 0, .int 0, .null, .null, .null, .int 0, .null, .null, .null, .int 0, .int 0, .int 0, .int 0, .int 0, .null, .int 0, .int 0, .int 0, .int 0, .int 0, .null, .null, .int 0, .null, .int 0])), (q_1, .inl (k_2, 6, .inl (fun _ => 0))), (q_3, .inl (k_4, 36, .inl (fun _ => 0))), (q_5, .inl (k_6, 24, .inl (fun _ => 0)))] := hD
  have hK : va_K (dC, dI) vwCl [(k_2, .int), (k_4, .int), (k_6, .int)] s := hK
  refine W.widen (k := 3) (n := 66) (Nat.le_of_ble_eq_true rfl) (Nat.le_of_ble_eq_true rfl) ?_
  refine va_putF (D := (dC, dI)) (ci := 12) (v := .ref q_5) (ty := .array .int) (C := RX12) (T := TX12) (N := 57) hx hb hts (fun w h => List.mem_cons_of_mem _ (jnGB_X12 w h)) tyX12 tyX12_ok nmX12 hown hK hP hD hS 0 rfl rfl 11 (by decide) (hts _ (List.mem_cons_of_mem _ mGB_40)) (fun _ h9 => h9) rfl hin rfl (by decide +kernel) rfl rfl (Nat.le_of_ble_eq_true rfl) dX12_init_25 (fun H locs hP hD hS => ?_)
  have hP : va_P (dC, dI) vwCl [(h0, .inr (12, [.int 0, .int 0, .int 0, .int 0, .int 0, .int 0, .int 0, .int 0, .ref q_1, .ref q_3, .int 0, .ref q_5, .null, .null, .null, .null, .null, .int 0, .null, .null, .null, .null, .null, .int 0, .int 0, .null, .int 0, .int 0, .int 0, .int 0, .int 0, .int 0, .int 0, .int 0, .null, .null, .null, .int 0, .null, .null, .null, .int 0, .int 0, .int 0, .int 0, .int 0, .null, .int 0, .int 0, .int 0, .int 0, .int 0, .null, .null, .int 0, .null, .int 0])), (q_1, .inl (k_2, 6, .inl (fun _ => 0))), (q_3, .inl (k_4, 36, .inl (fun _ => 0))), (q_5, .inl (k_6, 24, .inl (fun _ => 0)))] H := hP
  have hD : va_D A [(h0, .inr (12, [.int 0, .int 0, .int 0, .int 0, .int 0, .int 0, .int 0, .int 0, .ref q_1, .ref q_3, .int 0, .ref q_5, .null, .null, .null, .null, .null, .int 0, .null, .null, .null, .null, .null, .int 0, .int 0, .null, .int 0, .int 0, .int 0, .int 0, .int 0, .int 0, .int 0, .int 0, .null, .null, .null, .int 0, .null, .null, .null, .int 0, .int 0, .int 0, .int 0, .int 0, .null, .int 0, .int 0, .int 0, .int 0, .int 0, .null, .null, .int 0, .null, .int 0])), (q_1, .inl (k_2, 6, .inl (fun _ => 0))), (q_3, .inl (k_4, 36, .inl (fun _ => 0))), (q_5, .inl (k_6, 24, .inl (fun _ => 0)))] := hD
  refine lv_aload_n hx hb dX12_init_28 rfl (lv_at hl 0 rfl) ?_
  refine lv_bipush (v := 24) hx hb dX12_init_29 (by decide) ?_
  refine va_newa (atype := .int) (ty := .int) (a0 := (24, .inl (fun _ => 0))) hx hb (hts _ (List.mem_cons_of_mem _ mGB_37)) rfl hK hP hD hS hA (fun _ => rfl) (by decide) (by decide) (Nat.le_of_ble_eq_true rfl) (Nat.le_of_ble_eq_true rfl) (Nat.le_of_ble_eq_true rfl) dX12_init_31 (fun q_7 k_8 H hK hP hD hS => ?_)
  have hP : va_P (dC, dI) vwCl [(h0, .inr (12, [.int 0, .int 0, .int 0, .int 0, .int 0, .int 0, .int 0, .int 0, .ref q_1, .ref q_3, .int 0, .ref q_5, .null, .null, .null, .null, .null, .int 0, .null, .null, .null, .null, .null, .int 0, .int 0, .null, .int 0, .int 0, .int 0, .int 0, .int 0, .int 0, .int 0, .int 0, .null, .null, .null, .int 0, .null, .null, .null, .int 0, .int 0, .int 0, .int 0, .int 0, .null, .int 0, .int 0, .int 0, .int 0, .int 0, .null, .null, .int 0, .null, .int 0])), (q_1, .inl (k_2, 6, .inl (fun _ => 0))), (q_3, .inl (k_4, 36, .inl (fun _ => 0))), (q_5, .inl (k_6, 24, .inl (fun _ => 0))), (q_7, .inl (k_8, 24, .inl (fun _ => 0)))] H := hP
  have hD : va_D A [(h0, .inr (12, [.int 0, .int 0, .int 0, .int 0, .int 0, .int 0, .int 0, .int 0, .ref q_1, .ref q_3, .int 0, .ref q_5, .null, .null, .null, .null, .null, .int 0, .null, .null, .null, .null, .null, .int 0, .int 0, .null, .int 0, .int 0, .int 0, .int 0, .int 0, .int 0, .int 0, .int 0, .null, .null, .null, .int 0, .null, .null, .null, .int 0, .int 0, .int 0, .int 0, .int 0, .null, .int 0, .int 0, .int 0, .int 0, .int 0, .null, .null, .int 0, .null, .int 0])), (q_1, .inl (k_2, 6, .inl (fun _ => 0))), (q_3, .inl (k_4, 36, .inl (fun _ => 0))), (q_5, .inl (k_6, 24, .inl (fun _ => 0))), (q_7, .inl (k_8, 24, .inl (fun _ => 0)))] := hD
  have hK : va_K (dC, dI) vwCl [(k_2, .int), (k_4, .int), (k_6, .int), (k_8, .int)] s := hK
  refine W.widen (k := 4) (n := 90) (Nat.le_of_ble_eq_true rfl) (Nat.le_of_ble_eq_true rfl) ?_
  refine va_putF (D := (dC, dI)) (ci := 12) (v := .ref q_7) (ty := .array .int) (C := RX12) (T := TX12) (N := 57) hx hb hts (fun w h => List.mem_cons_of_mem _ (jnGB_X12 w h)) tyX12 tyX12_ok nmX12 hown hK hP hD hS 0 rfl rfl 12 (by decide) (hts _ (List.mem_cons_of_mem _ mGB_41)) (fun _ h9 => h9) rfl hin rfl (by decide +kernel) rfl rfl (Nat.le_of_ble_eq_true rfl) dX12_init_33 (fun H locs hP hD hS => ?_)
  have hP : va_P (dC, dI) vwCl [(h0, .inr (12, [.int 0, .int 0, .int 0, .int 0, .int 0, .int 0, .int 0, .int 0, .ref q_1, .ref q_3, .int 0, .ref q_5, .ref q_7, .null, .null, .null, .null, .int 0, .null, .null, .null, .null, .null, .int 0, .int 0, .null, .int 0, .int 0, .int 0, .int 0, .int 0, .int 0, .int 0, .int 0, .null, .null, .null, .int 0, .null, .null, .null, .int 0, .int 0, .int 0, .int 0, .int 0, .null, .int 0, .int 0, .int 0, .int 0, .int 0, .null, .null, .int 0, .null, .int 0])), (q_1, .inl (k_2, 6, .inl (fun _ => 0))), (q_3, .inl (k_4, 36, .inl (fun _ => 0))), (q_5, .inl (k_6, 24, .inl (fun _ => 0))), (q_7, .inl (k_8, 24, .inl (fun _ => 0)))] H := hP
  have hD : va_D A [(h0, .inr (12, [.int 0, .int 0, .int 0, .int 0, .int 0, .int 0, .int 0, .int 0, .ref q_1, .ref q_3, .int 0, .ref q_5, .ref q_7, .null, .null, .null, .null, .int 0, .null, .null, .null, .null, .null, .int 0, .int 0, .null, .int 0, .int 0, .int 0, .int 0, .int 0, .int 0, .int 0, .int 0, .null, .null, .null, .int 0, .null, .null, .null, .int 0, .int 0, .int 0, .int 0, .int 0, .null, .int 0, .int 0, .int 0, .int 0, .int 0, .null, .null, .int 0, .null, .int 0])), (q_1, .inl (k_2, 6, .inl (fun _ => 0))), (q_3, .inl (k_4, 36, .inl (fun _ => 0))), (q_5, .inl (k_6, 24, .inl (fun _ => 0))), (q_7, .inl (k_8, 24, .inl (fun _ => 0)))] := hD
  refine lv_aload_n hx hb dX12_init_36 rfl (lv_at hl 0 rfl) ?_
  refine lv_bipush (v := 24) hx hb dX12_init_37 (by decide) ?_
  refine va_newa (atype := .boolean) (ty := .boolean) (a0 := (24, .inl (fun _ => 0))) hx hb (hts _ (List.mem_cons_of_mem _ mGB_42)) rfl hK hP hD hS hA (fun _ => rfl) (by decide) (by decide) (Nat.le_of_ble_eq_true rfl) (Nat.le_of_ble_eq_true rfl) (Nat.le_of_ble_eq_true rfl) dX12_init_39 (fun q_9 k_10 H hK hP hD hS => ?_)
  have hP : va_P (dC, dI) vwCl [(h0, .inr (12, [.int 0, .int 0, .int 0, .int 0, .int 0, .int 0, .int 0, .int 0, .ref q_1, .ref q_3, .int 0, .ref q_5, .ref q_7, .null, .null, .null, .null, .int 0, .null, .null, .null, .null, .null, .int 0, .int 0, .null, .int 0, .int 0, .int 0, .int 0, .int 0, .int 0, .int 0, .int 0, .null, .null, .null, .int 0, .null, .null, .null, .int 0, .int 0, .int 0, .int 0, .int 0, .null, .int 0, .int 0, .int 0, .int 0, .int 0, .null, .null, .int 0, .null, .int 0])), (q_1, .inl (k_2, 6, .inl (fun _ => 0))), (q_3, .inl (k_4, 36, .inl (fun _ => 0))), (q_5, .inl (k_6, 24, .inl (fun _ => 0))), (q_7, .inl (k_8, 24, .inl (fun _ => 0))), (q_9, .inl (k_10, 24, .inl (fun _ => 0)))] H := hP
  have hD : va_D A [(h0, .inr (12, [.int 0, .int 0, .int 0, .int 0, .int 0, .int 0, .int 0, .int 0, .ref q_1, .ref q_3, .int 0, .ref q_5, .ref q_7, .null, .null, .null, .null, .int 0, .null, .null, .null, .null, .null, .int 0, .int 0, .null, .int 0, .int 0, .int 0, .int 0, .int 0, .int 0, .int 0, .int 0, .null, .null, .null, .int 0, .null, .null, .null, .int 0, .int 0, .int 0, .int 0, .int 0, .null, .int 0, .int 0, .int 0, .int 0, .int 0, .null, .null, .int 0, .null, .int 0])), (q_1, .inl (k_2, 6, .inl (fun _ => 0))), (q_3, .inl (k_4, 36, .inl (fun _ => 0))), (q_5, .inl (k_6, 24, .inl (fun _ => 0))), (q_7, .inl (k_8, 24, .inl (fun _ => 0))), (q_9, .inl (k_10, 24, .inl (fun _ => 0)))] := hD
  have hK : va_K (dC, dI) vwCl [(k_2, .int), (k_4, .int), (k_6, .int), (k_8, .int), (k_10, .boolean)] s := hK
  refine W.widen (k := 5) (n := 114) (Nat.le_of_ble_eq_true rfl) (Nat.le_of_ble_eq_true rfl) ?_
  refine va_putF (D := (dC, dI)) (ci := 12) (v := .ref q_9) (ty := .array .boolean) (C := RX12) (T := TX12) (N := 57) hx hb hts (fun w h => List.mem_cons_of_mem _ (jnGB_X12 w h)) tyX12 tyX12_ok nmX12 hown hK hP hD hS 0 rfl rfl 13 (by decide) (hts _ (List.mem_cons_of_mem _ mGB_43)) (fun _ h9 => h9) rfl hin rfl (by decide +kernel) rfl rfl (Nat.le_of_ble_eq_true rfl) dX12_init_41 (fun H locs hP hD hS => ?_)
  have hP : va_P (dC, dI) vwCl [(h0, .inr (12, [.int 0, .int 0, .int 0, .int 0, .int 0, .int 0, .int 0, .int 0, .ref q_1, .ref q_3, .int 0, .ref q_5, .ref q_7, .ref q_9, .null, .null, .null, .int 0, .null, .null, .null, .null, .null, .int 0, .int 0, .null, .int 0, .int 0, .int 0, .int 0, .int 0, .int 0, .int 0, .int 0, .null, .null, .null, .int 0, .null, .null, .null, .int 0, .int 0, .int 0, .int 0, .int 0, .null, .int 0, .int 0, .int 0, .int 0, .int 0, .null, .null, .int 0, .null, .int 0])), (q_1, .inl (k_2, 6, .inl (fun _ => 0))), (q_3, .inl (k_4, 36, .inl (fun _ => 0))), (q_5, .inl (k_6, 24, .inl (fun _ => 0))), (q_7, .inl (k_8, 24, .inl (fun _ => 0))), (q_9, .inl (k_10, 24, .inl (fun _ => 0)))] H := hP
  have hD : va_D A [(h0, .inr (12, [.int 0, .int 0, .int 0, .int 0, .int 0, .int 0, .int 0, .int 0, .ref q_1, .ref q_3, .int 0, .ref q_5, .ref q_7, .ref q_9, .null, .null, .null, .int 0, .null, .null, .null, .null, .null, .int 0, .int 0, .null, .int 0, .int 0, .int 0, .int 0, .int 0, .int 0, .int 0, .int 0, .null, .null, .null, .int 0, .null, .null, .null, .int 0, .int 0, .int 0, .int 0, .int 0, .null, .int 0, .int 0, .int 0, .int 0, .int 0, .null, .null, .int 0, .null, .int 0])), (q_1, .inl (k_2, 6, .inl (fun _ => 0))), (q_3, .inl (k_4, 36, .inl (fun _ => 0))), (q_5, .inl (k_6, 24, .inl (fun _ => 0))), (q_7, .inl (k_8, 24, .inl (fun _ => 0))), (q_9, .inl (k_10, 24, .inl (fun _ => 0)))] := hD
  refine lv_aload_n hx hb dX12_init_44 rfl (lv_at hl 0 rfl) ?_
  refine lv_bipush (v := 24) hx hb dX12_init_45 (by decide) ?_
  refine va_newa (atype := .int) (ty := .int) (a0 := (24, .inl (fun _ => 0))) hx hb (hts _ (List.mem_cons_of_mem _ mGB_37)) rfl hK hP hD hS hA (fun _ => rfl) (by decide) (by decide) (Nat.le_of_ble_eq_true rfl) (Nat.le_of_ble_eq_true rfl) (Nat.le_of_ble_eq_true rfl) dX12_init_47 (fun q_11 k_12 H hK hP hD hS => ?_)
  have hP : va_P (dC, dI) vwCl [(h0, .inr (12, [.int 0, .int 0, .int 0, .int 0, .int 0, .int 0, .int 0, .int 0, .ref q_1, .ref q_3, .int 0, .ref q_5, .ref q_7, .ref q_9, .null, .null, .null, .int 0, .null, .null, .null, .null, .null, .int 0, .int 0, .null, .int 0, .int 0, .int 0, .int 0, .int 0, .int 0, .int 0, .int 0, .null, .null, .null, .int 0, .null, .null, .null, .int 0, .int 0, .int 0, .int 0, .int 0, .null, .int 0, .int 0, .int 0, .int 0, .int 0, .null, .null, .int 0, .null, .int 0])), (q_1, .inl (k_2, 6, .inl (fun _ => 0))), (q_3, .inl (k_4, 36, .inl (fun _ => 0))), (q_5, .inl (k_6, 24, .inl (fun _ => 0))), (q_7, .inl (k_8, 24, .inl (fun _ => 0))), (q_9, .inl (k_10, 24, .inl (fun _ => 0))), (q_11, .inl (k_12, 24, .inl (fun _ => 0)))] H := hP
  have hD : va_D A [(h0, .inr (12, [.int 0, .int 0, .int 0, .int 0, .int 0, .int 0, .int 0, .int 0, .ref q_1, .ref q_3, .int 0, .ref q_5, .ref q_7, .ref q_9, .null, .null, .null, .int 0, .null, .null, .null, .null, .null, .int 0, .int 0, .null, .int 0, .int 0, .int 0, .int 0, .int 0, .int 0, .int 0, .int 0, .null, .null, .null, .int 0, .null, .null, .null, .int 0, .int 0, .int 0, .int 0, .int 0, .null, .int 0, .int 0, .int 0, .int 0, .int 0, .null, .null, .int 0, .null, .int 0])), (q_1, .inl (k_2, 6, .inl (fun _ => 0))), (q_3, .inl (k_4, 36, .inl (fun _ => 0))), (q_5, .inl (k_6, 24, .inl (fun _ => 0))), (q_7, .inl (k_8, 24, .inl (fun _ => 0))), (q_9, .inl (k_10, 24, .inl (fun _ => 0))), (q_11, .inl (k_12, 24, .inl (fun _ => 0)))] := hD
  have hK : va_K (dC, dI) vwCl [(k_2, .int), (k_4, .int), (k_6, .int), (k_8, .int), (k_10, .boolean), (k_12, .int)] s := hK
  refine W.widen (k := 6) (n := 138) (Nat.le_of_ble_eq_true rfl) (Nat.le_of_ble_eq_true rfl) ?_
  refine va_putF (D := (dC, dI)) (ci := 12) (v := .ref q_11) (ty := .array .int) (C := RX12) (T := TX12) (N := 57) hx hb hts (fun w h => List.mem_cons_of_mem _ (jnGB_X12 w h)) tyX12 tyX12_ok nmX12 hown hK hP hD hS 0 rfl rfl 14 (by decide) (hts _ (List.mem_cons_of_mem _ mGB_44)) (fun _ h9 => h9) rfl hin rfl (by decide +kernel) rfl rfl (Nat.le_of_ble_eq_true rfl) dX12_init_49 (fun H locs hP hD hS => ?_)
  have hP : va_P (dC, dI) vwCl [(h0, .inr (12, [.int 0, .int 0, .int 0, .int 0, .int 0, .int 0, .int 0, .int 0, .ref q_1, .ref q_3, .int 0, .ref q_5, .ref q_7, .ref q_9, .ref q_11, .null, .null, .int 0, .null, .null, .null, .null, .null, .int 0, .int 0, .null, .int 0, .int 0, .int 0, .int 0, .int 0, .int 0, .int 0, .int 0, .null, .null, .null, .int 0, .null, .null, .null, .int 0, .int 0, .int 0, .int 0, .int 0, .null, .int 0, .int 0, .int 0, .int 0, .int 0, .null, .null, .int 0, .null, .int 0])), (q_1, .inl (k_2, 6, .inl (fun _ => 0))), (q_3, .inl (k_4, 36, .inl (fun _ => 0))), (q_5, .inl (k_6, 24, .inl (fun _ => 0))), (q_7, .inl (k_8, 24, .inl (fun _ => 0))), (q_9, .inl (k_10, 24, .inl (fun _ => 0))), (q_11, .inl (k_12, 24, .inl (fun _ => 0)))] H := hP
  have hD : va_D A [(h0, .inr (12, [.int 0, .int 0, .int 0, .int 0, .int 0, .int 0, .int 0, .int 0, .ref q_1, .ref q_3, .int 0, .ref q_5, .ref q_7, .ref q_9, .ref q_11, .null, .null, .int 0, .null, .null, .null, .null, .null, .int 0, .int 0, .null, .int 0, .int 0, .int 0, .int 0, .int 0, .int 0, .int 0, .int 0, .null, .null, .null, .int 0, .null, .null, .null, .int 0, .int 0, .int 0, .int 0, .int 0, .null, .int 0, .int 0, .int 0, .int 0, .int 0, .null, .null, .int 0, .null, .int 0])), (q_1, .inl (k_2, 6, .inl (fun _ => 0))), (q_3, .inl (k_4, 36, .inl (fun _ => 0))), (q_5, .inl (k_6, 24, .inl (fun _ => 0))), (q_7, .inl (k_8, 24, .inl (fun _ => 0))), (q_9, .inl (k_10, 24, .inl (fun _ => 0))), (q_11, .inl (k_12, 24, .inl (fun _ => 0)))] := hD
  refine lv_aload_n hx hb dX12_init_52 rfl (lv_at hl 0 rfl) ?_
  refine lv_bipush (v := 24) hx hb dX12_init_53 (by decide) ?_
  refine va_newa (atype := .int) (ty := .int) (a0 := (24, .inl (fun _ => 0))) hx hb (hts _ (List.mem_cons_of_mem _ mGB_37)) rfl hK hP hD hS hA (fun _ => rfl) (by decide) (by decide) (Nat.le_of_ble_eq_true rfl) (Nat.le_of_ble_eq_true rfl) (Nat.le_of_ble_eq_true rfl) dX12_init_55 (fun q_13 k_14 H hK hP hD hS => ?_)
  have hP : va_P (dC, dI) vwCl [(h0, .inr (12, [.int 0, .int 0, .int 0, .int 0, .int 0, .int 0, .int 0, .int 0, .ref q_1, .ref q_3, .int 0, .ref q_5, .ref q_7, .ref q_9, .ref q_11, .null, .null, .int 0, .null, .null, .null, .null, .null, .int 0, .int 0, .null, .int 0, .int 0, .int 0, .int 0, .int 0, .int 0, .int 0, .int 0, .null, .null, .null, .int 0, .null, .null, .null, .int 0, .int 0, .int 0, .int 0, .int 0, .null, .int 0, .int 0, .int 0, .int 0, .int 0, .null, .null, .int 0, .null, .int 0])), (q_1, .inl (k_2, 6, .inl (fun _ => 0))), (q_3, .inl (k_4, 36, .inl (fun _ => 0))), (q_5, .inl (k_6, 24, .inl (fun _ => 0))), (q_7, .inl (k_8, 24, .inl (fun _ => 0))), (q_9, .inl (k_10, 24, .inl (fun _ => 0))), (q_11, .inl (k_12, 24, .inl (fun _ => 0))), (q_13, .inl (k_14, 24, .inl (fun _ => 0)))] H := hP
  have hD : va_D A [(h0, .inr (12, [.int 0, .int 0, .int 0, .int 0, .int 0, .int 0, .int 0, .int 0, .ref q_1, .ref q_3, .int 0, .ref q_5, .ref q_7, .ref q_9, .ref q_11, .null, .null, .int 0, .null, .null, .null, .null, .null, .int 0, .int 0, .null, .int 0, .int 0, .int 0, .int 0, .int 0, .int 0, .int 0, .int 0, .null, .null, .null, .int 0, .null, .null, .null, .int 0, .int 0, .int 0, .int 0, .int 0, .null, .int 0, .int 0, .int 0, .int 0, .int 0, .null, .null, .int 0, .null, .int 0])), (q_1, .inl (k_2, 6, .inl (fun _ => 0))), (q_3, .inl (k_4, 36, .inl (fun _ => 0))), (q_5, .inl (k_6, 24, .inl (fun _ => 0))), (q_7, .inl (k_8, 24, .inl (fun _ => 0))), (q_9, .inl (k_10, 24, .inl (fun _ => 0))), (q_11, .inl (k_12, 24, .inl (fun _ => 0))), (q_13, .inl (k_14, 24, .inl (fun _ => 0)))] := hD
  have hK : va_K (dC, dI) vwCl [(k_2, .int), (k_4, .int), (k_6, .int), (k_8, .int), (k_10, .boolean), (k_12, .int), (k_14, .int)] s := hK
  refine W.widen (k := 7) (n := 162) (Nat.le_of_ble_eq_true rfl) (Nat.le_of_ble_eq_true rfl) ?_
  refine va_putF (D := (dC, dI)) (ci := 12) (v := .ref q_13) (ty := .array .int) (C := RX12) (T := TX12) (N := 57) hx hb hts (fun w h => List.mem_cons_of_mem _ (jnGB_X12 w h)) tyX12 tyX12_ok nmX12 hown hK hP hD hS 0 rfl rfl 15 (by decide) (hts _ (List.mem_cons_of_mem _ mGB_45)) (fun _ h9 => h9) rfl hin rfl (by decide +kernel) rfl rfl (Nat.le_of_ble_eq_true rfl) dX12_init_57 (fun H locs hP hD hS => ?_)
  have hP : va_P (dC, dI) vwCl [(h0, .inr (12, [.int 0, .int 0, .int 0, .int 0, .int 0, .int 0, .int 0, .int 0, .ref q_1, .ref q_3, .int 0, .ref q_5, .ref q_7, .ref q_9, .ref q_11, .ref q_13, .null, .int 0, .null, .null, .null, .null, .null, .int 0, .int 0, .null, .int 0, .int 0, .int 0, .int 0, .int 0, .int 0, .int 0, .int 0, .null, .null, .null, .int 0, .null, .null, .null, .int 0, .int 0, .int 0, .int 0, .int 0, .null, .int 0, .int 0, .int 0, .int 0, .int 0, .null, .null, .int 0, .null, .int 0])), (q_1, .inl (k_2, 6, .inl (fun _ => 0))), (q_3, .inl (k_4, 36, .inl (fun _ => 0))), (q_5, .inl (k_6, 24, .inl (fun _ => 0))), (q_7, .inl (k_8, 24, .inl (fun _ => 0))), (q_9, .inl (k_10, 24, .inl (fun _ => 0))), (q_11, .inl (k_12, 24, .inl (fun _ => 0))), (q_13, .inl (k_14, 24, .inl (fun _ => 0)))] H := hP
  have hD : va_D A [(h0, .inr (12, [.int 0, .int 0, .int 0, .int 0, .int 0, .int 0, .int 0, .int 0, .ref q_1, .ref q_3, .int 0, .ref q_5, .ref q_7, .ref q_9, .ref q_11, .ref q_13, .null, .int 0, .null, .null, .null, .null, .null, .int 0, .int 0, .null, .int 0, .int 0, .int 0, .int 0, .int 0, .int 0, .int 0, .int 0, .null, .null, .null, .int 0, .null, .null, .null, .int 0, .int 0, .int 0, .int 0, .int 0, .null, .int 0, .int 0, .int 0, .int 0, .int 0, .null, .null, .int 0, .null, .int 0])), (q_1, .inl (k_2, 6, .inl (fun _ => 0))), (q_3, .inl (k_4, 36, .inl (fun _ => 0))), (q_5, .inl (k_6, 24, .inl (fun _ => 0))), (q_7, .inl (k_8, 24, .inl (fun _ => 0))), (q_9, .inl (k_10, 24, .inl (fun _ => 0))), (q_11, .inl (k_12, 24, .inl (fun _ => 0))), (q_13, .inl (k_14, 24, .inl (fun _ => 0)))] := hD
  refine lv_aload_n hx hb dX12_init_60 rfl (lv_at hl 0 rfl) ?_
  refine lv_bipush (v := 24) hx hb dX12_init_61 (by decide) ?_
  refine va_newa (atype := .int) (ty := .int) (a0 := (24, .inl (fun _ => 0))) hx hb (hts _ (List.mem_cons_of_mem _ mGB_37)) rfl hK hP hD hS hA (fun _ => rfl) (by decide) (by decide) (Nat.le_of_ble_eq_true rfl) (Nat.le_of_ble_eq_true rfl) (Nat.le_of_ble_eq_true rfl) dX12_init_63 (fun q_15 k_16 H hK hP hD hS => ?_)
  have hP : va_P (dC, dI) vwCl [(h0, .inr (12, [.int 0, .int 0, .int 0, .int 0, .int 0, .int 0, .int 0, .int 0, .ref q_1, .ref q_3, .int 0, .ref q_5, .ref q_7, .ref q_9, .ref q_11, .ref q_13, .null, .int 0, .null, .null, .null, .null, .null, .int 0, .int 0, .null, .int 0, .int 0, .int 0, .int 0, .int 0, .int 0, .int 0, .int 0, .null, .null, .null, .int 0, .null, .null, .null, .int 0, .int 0, .int 0, .int 0, .int 0, .null, .int 0, .int 0, .int 0, .int 0, .int 0, .null, .null, .int 0, .null, .int 0])), (q_1, .inl (k_2, 6, .inl (fun _ => 0))), (q_3, .inl (k_4, 36, .inl (fun _ => 0))), (q_5, .inl (k_6, 24, .inl (fun _ => 0))), (q_7, .inl (k_8, 24, .inl (fun _ => 0))), (q_9, .inl (k_10, 24, .inl (fun _ => 0))), (q_11, .inl (k_12, 24, .inl (fun _ => 0))), (q_13, .inl (k_14, 24, .inl (fun _ => 0))), (q_15, .inl (k_16, 24, .inl (fun _ => 0)))] H := hP
  have hD : va_D A [(h0, .inr (12, [.int 0, .int 0, .int 0, .int 0, .int 0, .int 0, .int 0, .int 0, .ref q_1, .ref q_3, .int 0, .ref q_5, .ref q_7, .ref q_9, .ref q_11, .ref q_13, .null, .int 0, .null, .null, .null, .null, .null, .int 0, .int 0, .null, .int 0, .int 0, .int 0, .int 0, .int 0, .int 0, .int 0, .int 0, .null, .null, .null, .int 0, .null, .null, .null, .int 0, .int 0, .int 0, .int 0, .int 0, .null, .int 0, .int 0, .int 0, .int 0, .int 0, .null, .null, .int 0, .null, .int 0])), (q_1, .inl (k_2, 6, .inl (fun _ => 0))), (q_3, .inl (k_4, 36, .inl (fun _ => 0))), (q_5, .inl (k_6, 24, .inl (fun _ => 0))), (q_7, .inl (k_8, 24, .inl (fun _ => 0))), (q_9, .inl (k_10, 24, .inl (fun _ => 0))), (q_11, .inl (k_12, 24, .inl (fun _ => 0))), (q_13, .inl (k_14, 24, .inl (fun _ => 0))), (q_15, .inl (k_16, 24, .inl (fun _ => 0)))] := hD
  have hK : va_K (dC, dI) vwCl [(k_2, .int), (k_4, .int), (k_6, .int), (k_8, .int), (k_10, .boolean), (k_12, .int), (k_14, .int), (k_16, .int)] s := hK
  refine W.widen (k := 8) (n := 186) (Nat.le_of_ble_eq_true rfl) (Nat.le_of_ble_eq_true rfl) ?_
  refine va_putF (D := (dC, dI)) (ci := 12) (v := .ref q_15) (ty := .array .int) (C := RX12) (T := TX12) (N := 57) hx hb hts (fun w h => List.mem_cons_of_mem _ (jnGB_X12 w h)) tyX12 tyX12_ok nmX12 hown hK hP hD hS 0 rfl rfl 16 (by decide) (hts _ (List.mem_cons_of_mem _ mGB_46)) (fun _ h9 => h9) rfl hin rfl (by decide +kernel) rfl rfl (Nat.le_of_ble_eq_true rfl) dX12_init_65 (fun H locs hP hD hS => ?_)
  have hP : va_P (dC, dI) vwCl [(h0, .inr (12, [.int 0, .int 0, .int 0, .int 0, .int 0, .int 0, .int 0, .int 0, .ref q_1, .ref q_3, .int 0, .ref q_5, .ref q_7, .ref q_9, .ref q_11, .ref q_13, .ref q_15, .int 0, .null, .null, .null, .null, .null, .int 0, .int 0, .null, .int 0, .int 0, .int 0, .int 0, .int 0, .int 0, .int 0, .int 0, .null, .null, .null, .int 0, .null, .null, .null, .int 0, .int 0, .int 0, .int 0, .int 0, .null, .int 0, .int 0, .int 0, .int 0, .int 0, .null, .null, .int 0, .null, .int 0])), (q_1, .inl (k_2, 6, .inl (fun _ => 0))), (q_3, .inl (k_4, 36, .inl (fun _ => 0))), (q_5, .inl (k_6, 24, .inl (fun _ => 0))), (q_7, .inl (k_8, 24, .inl (fun _ => 0))), (q_9, .inl (k_10, 24, .inl (fun _ => 0))), (q_11, .inl (k_12, 24, .inl (fun _ => 0))), (q_13, .inl (k_14, 24, .inl (fun _ => 0))), (q_15, .inl (k_16, 24, .inl (fun _ => 0)))] H := hP
  have hD : va_D A [(h0, .inr (12, [.int 0, .int 0, .int 0, .int 0, .int 0, .int 0, .int 0, .int 0, .ref q_1, .ref q_3, .int 0, .ref q_5, .ref q_7, .ref q_9, .ref q_11, .ref q_13, .ref q_15, .int 0, .null, .null, .null, .null, .null, .int 0, .int 0, .null, .int 0, .int 0, .int 0, .int 0, .int 0, .int 0, .int 0, .int 0, .null, .null, .null, .int 0, .null, .null, .null, .int 0, .int 0, .int 0, .int 0, .int 0, .null, .int 0, .int 0, .int 0, .int 0, .int 0, .null, .null, .int 0, .null, .int 0])), (q_1, .inl (k_2, 6, .inl (fun _ => 0))), (q_3, .inl (k_4, 36, .inl (fun _ => 0))), (q_5, .inl (k_6, 24, .inl (fun _ => 0))), (q_7, .inl (k_8, 24, .inl (fun _ => 0))), (q_9, .inl (k_10, 24, .inl (fun _ => 0))), (q_11, .inl (k_12, 24, .inl (fun _ => 0))), (q_13, .inl (k_14, 24, .inl (fun _ => 0))), (q_15, .inl (k_16, 24, .inl (fun _ => 0)))] := hD
  refine lv_aload_n hx hb dX12_init_68 rfl (lv_at hl 0 rfl) ?_
  refine lv_bipush (v := 8) hx hb dX12_init_69 (by decide) ?_
  refine va_newa (atype := .int) (ty := .int) (a0 := (8, .inl (fun _ => 0))) hx hb (hts _ (List.mem_cons_of_mem _ mGB_37)) rfl hK hP hD hS hA (fun _ => rfl) (by decide) (by decide) (Nat.le_of_ble_eq_true rfl) (Nat.le_of_ble_eq_true rfl) (Nat.le_of_ble_eq_true rfl) dX12_init_71 (fun q_17 k_18 H hK hP hD hS => ?_)
  have hP : va_P (dC, dI) vwCl [(h0, .inr (12, [.int 0, .int 0, .int 0, .int 0, .int 0, .int 0, .int 0, .int 0, .ref q_1, .ref q_3, .int 0, .ref q_5, .ref q_7, .ref q_9, .ref q_11, .ref q_13, .ref q_15, .int 0, .null, .null, .null, .null, .null, .int 0, .int 0, .null, .int 0, .int 0, .int 0, .int 0, .int 0, .int 0, .int 0, .int 0, .null, .null, .null, .int 0, .null, .null, .null, .int 0, .int 0, .int 0, .int 0, .int 0, .null, .int 0, .int 0, .int 0, .int 0, .int 0, .null, .null, .int 0, .null, .int 0])), (q_1, .inl (k_2, 6, .inl (fun _ => 0))), (q_3, .inl (k_4, 36, .inl (fun _ => 0))), (q_5, .inl (k_6, 24, .inl (fun _ => 0))), (q_7, .inl (k_8, 24, .inl (fun _ => 0))), (q_9, .inl (k_10, 24, .inl (fun _ => 0))), (q_11, .inl (k_12, 24, .inl (fun _ => 0))), (q_13, .inl (k_14, 24, .inl (fun _ => 0))), (q_15, .inl (k_16, 24, .inl (fun _ => 0))), (q_17, .inl (k_18, 8, .inl (fun _ => 0)))] H := hP
  have hD : va_D A [(h0, .inr (12, [.int 0, .int 0, .int 0, .int 0, .int 0, .int 0, .int 0, .int 0, .ref q_1, .ref q_3, .int 0, .ref q_5, .ref q_7, .ref q_9, .ref q_11, .ref q_13, .ref q_15, .int 0, .null, .null, .null, .null, .null, .int 0, .int 0, .null, .int 0, .int 0, .int 0, .int 0, .int 0, .int 0, .int 0, .int 0, .null, .null, .null, .int 0, .null, .null, .null, .int 0, .int 0, .int 0, .int 0, .int 0, .null, .int 0, .int 0, .int 0, .int 0, .int 0, .null, .null, .int 0, .null, .int 0])), (q_1, .inl (k_2, 6, .inl (fun _ => 0))), (q_3, .inl (k_4, 36, .inl (fun _ => 0))), (q_5, .inl (k_6, 24, .inl (fun _ => 0))), (q_7, .inl (k_8, 24, .inl (fun _ => 0))), (q_9, .inl (k_10, 24, .inl (fun _ => 0))), (q_11, .inl (k_12, 24, .inl (fun _ => 0))), (q_13, .inl (k_14, 24, .inl (fun _ => 0))), (q_15, .inl (k_16, 24, .inl (fun _ => 0))), (q_17, .inl (k_18, 8, .inl (fun _ => 0)))] := hD
  have hK : va_K (dC, dI) vwCl [(k_2, .int), (k_4, .int), (k_6, .int), (k_8, .int), (k_10, .boolean), (k_12, .int), (k_14, .int), (k_16, .int), (k_18, .int)] s := hK
  refine W.widen (k := 9) (n := 194) (Nat.le_of_ble_eq_true rfl) (Nat.le_of_ble_eq_true rfl) ?_
  refine va_putF (D := (dC, dI)) (ci := 12) (v := .ref q_17) (ty := .array .int) (C := RX12) (T := TX12) (N := 57) hx hb hts (fun w h => List.mem_cons_of_mem _ (jnGB_X12 w h)) tyX12 tyX12_ok nmX12 hown hK hP hD hS 0 rfl rfl 18 (by decide) (hts _ (List.mem_cons_of_mem _ mGB_47)) (fun _ h9 => h9) rfl hin rfl (by decide +kernel) rfl rfl (Nat.le_of_ble_eq_true rfl) dX12_init_73 (fun H locs hP hD hS => ?_)
  have hP : va_P (dC, dI) vwCl [(h0, .inr (12, [.int 0, .int 0, .int 0, .int 0, .int 0, .int 0, .int 0, .int 0, .ref q_1, .ref q_3, .int 0, .ref q_5, .ref q_7, .ref q_9, .ref q_11, .ref q_13, .ref q_15, .int 0, .ref q_17, .null, .null, .null, .null, .int 0, .int 0, .null, .int 0, .int 0, .int 0, .int 0, .int 0, .int 0, .int 0, .int 0, .null, .null, .null, .int 0, .null, .null, .null, .int 0, .int 0, .int 0, .int 0, .int 0, .null, .int 0, .int 0, .int 0, .int 0, .int 0, .null, .null, .int 0, .null, .int 0])), (q_1, .inl (k_2, 6, .inl (fun _ => 0))), (q_3, .inl (k_4, 36, .inl (fun _ => 0))), (q_5, .inl (k_6, 24, .inl (fun _ => 0))), (q_7, .inl (k_8, 24, .inl (fun _ => 0))), (q_9, .inl (k_10, 24, .inl (fun _ => 0))), (q_11, .inl (k_12, 24, .inl (fun _ => 0))), (q_13, .inl (k_14, 24, .inl (fun _ => 0))), (q_15, .inl (k_16, 24, .inl (fun _ => 0))), (q_17, .inl (k_18, 8, .inl (fun _ => 0)))] H := hP
  have hD : va_D A [(h0, .inr (12, [.int 0, .int 0, .int 0, .int 0, .int 0, .int 0, .int 0, .int 0, .ref q_1, .ref q_3, .int 0, .ref q_5, .ref q_7, .ref q_9, .ref q_11, .ref q_13, .ref q_15, .int 0, .ref q_17, .null, .null, .null, .null, .int 0, .int 0, .null, .int 0, .int 0, .int 0, .int 0, .int 0, .int 0, .int 0, .int 0, .null, .null, .null, .int 0, .null, .null, .null, .int 0, .int 0, .int 0, .int 0, .int 0, .null, .int 0, .int 0, .int 0, .int 0, .int 0, .null, .null, .int 0, .null, .int 0])), (q_1, .inl (k_2, 6, .inl (fun _ => 0))), (q_3, .inl (k_4, 36, .inl (fun _ => 0))), (q_5, .inl (k_6, 24, .inl (fun _ => 0))), (q_7, .inl (k_8, 24, .inl (fun _ => 0))), (q_9, .inl (k_10, 24, .inl (fun _ => 0))), (q_11, .inl (k_12, 24, .inl (fun _ => 0))), (q_13, .inl (k_14, 24, .inl (fun _ => 0))), (q_15, .inl (k_16, 24, .inl (fun _ => 0))), (q_17, .inl (k_18, 8, .inl (fun _ => 0)))] := hD
  refine lv_aload_n hx hb dX12_init_76 rfl (lv_at hl 0 rfl) ?_
  refine lv_bipush (v := 8) hx hb dX12_init_77 (by decide) ?_
  refine va_newa (atype := .int) (ty := .int) (a0 := (8, .inl (fun _ => 0))) hx hb (hts _ (List.mem_cons_of_mem _ mGB_37)) rfl hK hP hD hS hA (fun _ => rfl) (by decide) (by decide) (Nat.le_of_ble_eq_true rfl) (Nat.le_of_ble_eq_true rfl) (Nat.le_of_ble_eq_true rfl) dX12_init_79 (fun q_19 k_20 H hK hP hD hS => ?_)
  have hP : va_P (dC, dI) vwCl [(h0, .inr (12, [.int 0, .int 0, .int 0, .int 0, .int 0, .int 0, .int 0, .int 0, .ref q_1, .ref q_3, .int 0, .ref q_5, .ref q_7, .ref q_9, .ref q_11, .ref q_13, .ref q_15, .int 0, .ref q_17, .null, .null, .null, .null, .int 0, .int 0, .null, .int 0, .int 0, .int 0, .int 0, .int 0, .int 0, .int 0, .int 0, .null, .null, .null, .int 0, .null, .null, .null, .int 0, .int 0, .int 0, .int 0, .int 0, .null, .int 0, .int 0, .int 0, .int 0, .int 0, .null, .null, .int 0, .null, .int 0])), (q_1, .inl (k_2, 6, .inl (fun _ => 0))), (q_3, .inl (k_4, 36, .inl (fun _ => 0))), (q_5, .inl (k_6, 24, .inl (fun _ => 0))), (q_7, .inl (k_8, 24, .inl (fun _ => 0))), (q_9, .inl (k_10, 24, .inl (fun _ => 0))), (q_11, .inl (k_12, 24, .inl (fun _ => 0))), (q_13, .inl (k_14, 24, .inl (fun _ => 0))), (q_15, .inl (k_16, 24, .inl (fun _ => 0))), (q_17, .inl (k_18, 8, .inl (fun _ => 0))), (q_19, .inl (k_20, 8, .inl (fun _ => 0)))] H := hP
  have hD : va_D A [(h0, .inr (12, [.int 0, .int 0, .int 0, .int 0, .int 0, .int 0, .int 0, .int 0, .ref q_1, .ref q_3, .int 0, .ref q_5, .ref q_7, .ref q_9, .ref q_11, .ref q_13, .ref q_15, .int 0, .ref q_17, .null, .null, .null, .null, .int 0, .int 0, .null, .int 0, .int 0, .int 0, .int 0, .int 0, .int 0, .int 0, .int 0, .null, .null, .null, .int 0, .null, .null, .null, .int 0, .int 0, .int 0, .int 0, .int 0, .null, .int 0, .int 0, .int 0, .int 0, .int 0, .null, .null, .int 0, .null, .int 0])), (q_1, .inl (k_2, 6, .inl (fun _ => 0))), (q_3, .inl (k_4, 36, .inl (fun _ => 0))), (q_5, .inl (k_6, 24, .inl (fun _ => 0))), (q_7, .inl (k_8, 24, .inl (fun _ => 0))), (q_9, .inl (k_10, 24, .inl (fun _ => 0))), (q_11, .inl (k_12, 24, .inl (fun _ => 0))), (q_13, .inl (k_14, 24, .inl (fun _ => 0))), (q_15, .inl (k_16, 24, .inl (fun _ => 0))), (q_17, .inl (k_18, 8, .inl (fun _ => 0))), (q_19, .inl (k_20, 8, .inl (fun _ => 0)))] := hD
  have hK : va_K (dC, dI) vwCl [(k_2, .int), (k_4, .int), (k_6, .int), (k_8, .int), (k_10, .boolean), (k_12, .int), (k_14, .int), (k_16, .int), (k_18, .int), (k_20, .int)] s := hK
  refine W.widen (k := 10) (n := 202) (Nat.le_of_ble_eq_true rfl) (Nat.le_of_ble_eq_true rfl) ?_
  refine va_putF (D := (dC, dI)) (ci := 12) (v := .ref q_19) (ty := .array .int) (C := RX12) (T := TX12) (N := 57) hx hb hts (fun w h => List.mem_cons_of_mem _ (jnGB_X12 w h)) tyX12 tyX12_ok nmX12 hown hK hP hD hS 0 rfl rfl 19 (by decide) (hts _ (List.mem_cons_of_mem _ mGB_48)) (fun _ h9 => h9) rfl hin rfl (by decide +kernel) rfl rfl (Nat.le_of_ble_eq_true rfl) dX12_init_81 (fun H locs hP hD hS => ?_)
  have hP : va_P (dC, dI) vwCl [(h0, .inr (12, [.int 0, .int 0, .int 0, .int 0, .int 0, .int 0, .int 0, .int 0, .ref q_1, .ref q_3, .int 0, .ref q_5, .ref q_7, .ref q_9, .ref q_11, .ref q_13, .ref q_15, .int 0, .ref q_17, .ref q_19, .null, .null, .null, .int 0, .int 0, .null, .int 0, .int 0, .int 0, .int 0, .int 0, .int 0, .int 0, .int 0, .null, .null, .null, .int 0, .null, .null, .null, .int 0, .int 0, .int 0, .int 0, .int 0, .null, .int 0, .int 0, .int 0, .int 0, .int 0, .null, .null, .int 0, .null, .int 0])), (q_1, .inl (k_2, 6, .inl (fun _ => 0))), (q_3, .inl (k_4, 36, .inl (fun _ => 0))), (q_5, .inl (k_6, 24, .inl (fun _ => 0))), (q_7, .inl (k_8, 24, .inl (fun _ => 0))), (q_9, .inl (k_10, 24, .inl (fun _ => 0))), (q_11, .inl (k_12, 24, .inl (fun _ => 0))), (q_13, .inl (k_14, 24, .inl (fun _ => 0))), (q_15, .inl (k_16, 24, .inl (fun _ => 0))), (q_17, .inl (k_18, 8, .inl (fun _ => 0))), (q_19, .inl (k_20, 8, .inl (fun _ => 0)))] H := hP
  have hD : va_D A [(h0, .inr (12, [.int 0, .int 0, .int 0, .int 0, .int 0, .int 0, .int 0, .int 0, .ref q_1, .ref q_3, .int 0, .ref q_5, .ref q_7, .ref q_9, .ref q_11, .ref q_13, .ref q_15, .int 0, .ref q_17, .ref q_19, .null, .null, .null, .int 0, .int 0, .null, .int 0, .int 0, .int 0, .int 0, .int 0, .int 0, .int 0, .int 0, .null, .null, .null, .int 0, .null, .null, .null, .int 0, .int 0, .int 0, .int 0, .int 0, .null, .int 0, .int 0, .int 0, .int 0, .int 0, .null, .null, .int 0, .null, .int 0])), (q_1, .inl (k_2, 6, .inl (fun _ => 0))), (q_3, .inl (k_4, 36, .inl (fun _ => 0))), (q_5, .inl (k_6, 24, .inl (fun _ => 0))), (q_7, .inl (k_8, 24, .inl (fun _ => 0))), (q_9, .inl (k_10, 24, .inl (fun _ => 0))), (q_11, .inl (k_12, 24, .inl (fun _ => 0))), (q_13, .inl (k_14, 24, .inl (fun _ => 0))), (q_15, .inl (k_16, 24, .inl (fun _ => 0))), (q_17, .inl (k_18, 8, .inl (fun _ => 0))), (q_19, .inl (k_20, 8, .inl (fun _ => 0)))] := hD
  refine lv_aload_n hx hb dX12_init_84 rfl (lv_at hl 0 rfl) ?_
  refine lv_bipush (v := 8) hx hb dX12_init_85 (by decide) ?_
  refine va_newa (atype := .int) (ty := .int) (a0 := (8, .inl (fun _ => 0))) hx hb (hts _ (List.mem_cons_of_mem _ mGB_37)) rfl hK hP hD hS hA (fun _ => rfl) (by decide) (by decide) (Nat.le_of_ble_eq_true rfl) (Nat.le_of_ble_eq_true rfl) (Nat.le_of_ble_eq_true rfl) dX12_init_87 (fun q_21 k_22 H hK hP hD hS => ?_)
  have hP : va_P (dC, dI) vwCl [(h0, .inr (12, [.int 0, .int 0, .int 0, .int 0, .int 0, .int 0, .int 0, .int 0, .ref q_1, .ref q_3, .int 0, .ref q_5, .ref q_7, .ref q_9, .ref q_11, .ref q_13, .ref q_15, .int 0, .ref q_17, .ref q_19, .null, .null, .null, .int 0, .int 0, .null, .int 0, .int 0, .int 0, .int 0, .int 0, .int 0, .int 0, .int 0, .null, .null, .null, .int 0, .null, .null, .null, .int 0, .int 0, .int 0, .int 0, .int 0, .null, .int 0, .int 0, .int 0, .int 0, .int 0, .null, .null, .int 0, .null, .int 0])), (q_1, .inl (k_2, 6, .inl (fun _ => 0))), (q_3, .inl (k_4, 36, .inl (fun _ => 0))), (q_5, .inl (k_6, 24, .inl (fun _ => 0))), (q_7, .inl (k_8, 24, .inl (fun _ => 0))), (q_9, .inl (k_10, 24, .inl (fun _ => 0))), (q_11, .inl (k_12, 24, .inl (fun _ => 0))), (q_13, .inl (k_14, 24, .inl (fun _ => 0))), (q_15, .inl (k_16, 24, .inl (fun _ => 0))), (q_17, .inl (k_18, 8, .inl (fun _ => 0))), (q_19, .inl (k_20, 8, .inl (fun _ => 0))), (q_21, .inl (k_22, 8, .inl (fun _ => 0)))] H := hP
  have hD : va_D A [(h0, .inr (12, [.int 0, .int 0, .int 0, .int 0, .int 0, .int 0, .int 0, .int 0, .ref q_1, .ref q_3, .int 0, .ref q_5, .ref q_7, .ref q_9, .ref q_11, .ref q_13, .ref q_15, .int 0, .ref q_17, .ref q_19, .null, .null, .null, .int 0, .int 0, .null, .int 0, .int 0, .int 0, .int 0, .int 0, .int 0, .int 0, .int 0, .null, .null, .null, .int 0, .null, .null, .null, .int 0, .int 0, .int 0, .int 0, .int 0, .null, .int 0, .int 0, .int 0, .int 0, .int 0, .null, .null, .int 0, .null, .int 0])), (q_1, .inl (k_2, 6, .inl (fun _ => 0))), (q_3, .inl (k_4, 36, .inl (fun _ => 0))), (q_5, .inl (k_6, 24, .inl (fun _ => 0))), (q_7, .inl (k_8, 24, .inl (fun _ => 0))), (q_9, .inl (k_10, 24, .inl (fun _ => 0))), (q_11, .inl (k_12, 24, .inl (fun _ => 0))), (q_13, .inl (k_14, 24, .inl (fun _ => 0))), (q_15, .inl (k_16, 24, .inl (fun _ => 0))), (q_17, .inl (k_18, 8, .inl (fun _ => 0))), (q_19, .inl (k_20, 8, .inl (fun _ => 0))), (q_21, .inl (k_22, 8, .inl (fun _ => 0)))] := hD
  have hK : va_K (dC, dI) vwCl [(k_2, .int), (k_4, .int), (k_6, .int), (k_8, .int), (k_10, .boolean), (k_12, .int), (k_14, .int), (k_16, .int), (k_18, .int), (k_20, .int), (k_22, .int)] s := hK
  refine W.widen (k := 11) (n := 210) (Nat.le_of_ble_eq_true rfl) (Nat.le_of_ble_eq_true rfl) ?_
  refine va_putF (D := (dC, dI)) (ci := 12) (v := .ref q_21) (ty := .array .int) (C := RX12) (T := TX12) (N := 57) hx hb hts (fun w h => List.mem_cons_of_mem _ (jnGB_X12 w h)) tyX12 tyX12_ok nmX12 hown hK hP hD hS 0 rfl rfl 20 (by decide) (hts _ (List.mem_cons_of_mem _ mGB_49)) (fun _ h9 => h9) rfl hin rfl (by decide +kernel) rfl rfl (Nat.le_of_ble_eq_true rfl) dX12_init_89 (fun H locs hP hD hS => ?_)
  have hP : va_P (dC, dI) vwCl [(h0, .inr (12, [.int 0, .int 0, .int 0, .int 0, .int 0, .int 0, .int 0, .int 0, .ref q_1, .ref q_3, .int 0, .ref q_5, .ref q_7, .ref q_9, .ref q_11, .ref q_13, .ref q_15, .int 0, .ref q_17, .ref q_19, .ref q_21, .null, .null, .int 0, .int 0, .null, .int 0, .int 0, .int 0, .int 0, .int 0, .int 0, .int 0, .int 0, .null, .null, .null, .int 0, .null, .null, .null, .int 0, .int 0, .int 0, .int 0, .int 0, .null, .int 0, .int 0, .int 0, .int 0, .int 0, .null, .null, .int 0, .null, .int 0])), (q_1, .inl (k_2, 6, .inl (fun _ => 0))), (q_3, .inl (k_4, 36, .inl (fun _ => 0))), (q_5, .inl (k_6, 24, .inl (fun _ => 0))), (q_7, .inl (k_8, 24, .inl (fun _ => 0))), (q_9, .inl (k_10, 24, .inl (fun _ => 0))), (q_11, .inl (k_12, 24, .inl (fun _ => 0))), (q_13, .inl (k_14, 24, .inl (fun _ => 0))), (q_15, .inl (k_16, 24, .inl (fun _ => 0))), (q_17, .inl (k_18, 8, .inl (fun _ => 0))), (q_19, .inl (k_20, 8, .inl (fun _ => 0))), (q_21, .inl (k_22, 8, .inl (fun _ => 0)))] H := hP
  have hD : va_D A [(h0, .inr (12, [.int 0, .int 0, .int 0, .int 0, .int 0, .int 0, .int 0, .int 0, .ref q_1, .ref q_3, .int 0, .ref q_5, .ref q_7, .ref q_9, .ref q_11, .ref q_13, .ref q_15, .int 0, .ref q_17, .ref q_19, .ref q_21, .null, .null, .int 0, .int 0, .null, .int 0, .int 0, .int 0, .int 0, .int 0, .int 0, .int 0, .int 0, .null, .null, .null, .int 0, .null, .null, .null, .int 0, .int 0, .int 0, .int 0, .int 0, .null, .int 0, .int 0, .int 0, .int 0, .int 0, .null, .null, .int 0, .null, .int 0])), (q_1, .inl (k_2, 6, .inl (fun _ => 0))), (q_3, .inl (k_4, 36, .inl (fun _ => 0))), (q_5, .inl (k_6, 24, .inl (fun _ => 0))), (q_7, .inl (k_8, 24, .inl (fun _ => 0))), (q_9, .inl (k_10, 24, .inl (fun _ => 0))), (q_11, .inl (k_12, 24, .inl (fun _ => 0))), (q_13, .inl (k_14, 24, .inl (fun _ => 0))), (q_15, .inl (k_16, 24, .inl (fun _ => 0))), (q_17, .inl (k_18, 8, .inl (fun _ => 0))), (q_19, .inl (k_20, 8, .inl (fun _ => 0))), (q_21, .inl (k_22, 8, .inl (fun _ => 0)))] := hD
  refine lv_aload_n hx hb dX12_init_92 rfl (lv_at hl 0 rfl) ?_
  refine lv_bipush (v := 8) hx hb dX12_init_93 (by decide) ?_
  refine va_newa (atype := .int) (ty := .int) (a0 := (8, .inl (fun _ => 0))) hx hb (hts _ (List.mem_cons_of_mem _ mGB_37)) rfl hK hP hD hS hA (fun _ => rfl) (by decide) (by decide) (Nat.le_of_ble_eq_true rfl) (Nat.le_of_ble_eq_true rfl) (Nat.le_of_ble_eq_true rfl) dX12_init_95 (fun q_23 k_24 H hK hP hD hS => ?_)
  have hP : va_P (dC, dI) vwCl [(h0, .inr (12, [.int 0, .int 0, .int 0, .int 0, .int 0, .int 0, .int 0, .int 0, .ref q_1, .ref q_3, .int 0, .ref q_5, .ref q_7, .ref q_9, .ref q_11, .ref q_13, .ref q_15, .int 0, .ref q_17, .ref q_19, .ref q_21, .null, .null, .int 0, .int 0, .null, .int 0, .int 0, .int 0, .int 0, .int 0, .int 0, .int 0, .int 0, .null, .null, .null, .int 0, .null, .null, .null, .int 0, .int 0, .int 0, .int 0, .int 0, .null, .int 0, .int 0, .int 0, .int 0, .int 0, .null, .null, .int 0, .null, .int 0])), (q_1, .inl (k_2, 6, .inl (fun _ => 0))), (q_3, .inl (k_4, 36, .inl (fun _ => 0))), (q_5, .inl (k_6, 24, .inl (fun _ => 0))), (q_7, .inl (k_8, 24, .inl (fun _ => 0))), (q_9, .inl (k_10, 24, .inl (fun _ => 0))), (q_11, .inl (k_12, 24, .inl (fun _ => 0))), (q_13, .inl (k_14, 24, .inl (fun _ => 0))), (q_15, .inl (k_16, 24, .inl (fun _ => 0))), (q_17, .inl (k_18, 8, .inl (fun _ => 0))), (q_19, .inl (k_20, 8, .inl (fun _ => 0))), (q_21, .inl (k_22, 8, .inl (fun _ => 0))), (q_23, .inl (k_24, 8, .inl (fun _ => 0)))] H := hP
  have hD : va_D A [(h0, .inr (12, [.int 0, .int 0, .int 0, .int 0, .int 0, .int 0, .int 0, .int 0, .ref q_1, .ref q_3, .int 0, .ref q_5, .ref q_7, .ref q_9, .ref q_11, .ref q_13, .ref q_15, .int 0, .ref q_17, .ref q_19, .ref q_21, .null, .null, .int 0, .int 0, .null, .int 0, .int 0, .int 0, .int 0, .int 0, .int 0, .int 0, .int 0, .null, .null, .null, .int 0, .null, .null, .null, .int 0, .int 0, .int 0, .int 0, .int 0, .null, .int 0, .int 0, .int 0, .int 0, .int 0, .null, .null, .int 0, .null, .int 0])), (q_1, .inl (k_2, 6, .inl (fun _ => 0))), (q_3, .inl (k_4, 36, .inl (fun _ => 0))), (q_5, .inl (k_6, 24, .inl (fun _ => 0))), (q_7, .inl (k_8, 24, .inl (fun _ => 0))), (q_9, .inl (k_10, 24, .inl (fun _ => 0))), (q_11, .inl (k_12, 24, .inl (fun _ => 0))), (q_13, .inl (k_14, 24, .inl (fun _ => 0))), (q_15, .inl (k_16, 24, .inl (fun _ => 0))), (q_17, .inl (k_18, 8, .inl (fun _ => 0))), (q_19, .inl (k_20, 8, .inl (fun _ => 0))), (q_21, .inl (k_22, 8, .inl (fun _ => 0))), (q_23, .inl (k_24, 8, .inl (fun _ => 0)))] := hD
  have hK : va_K (dC, dI) vwCl [(k_2, .int), (k_4, .int), (k_6, .int), (k_8, .int), (k_10, .boolean), (k_12, .int), (k_14, .int), (k_16, .int), (k_18, .int), (k_20, .int), (k_22, .int), (k_24, .int)] s := hK
  refine W.widen (k := 12) (n := 218) (Nat.le_of_ble_eq_true rfl) (Nat.le_of_ble_eq_true rfl) ?_
  refine va_putF (D := (dC, dI)) (ci := 12) (v := .ref q_23) (ty := .array .int) (C := RX12) (T := TX12) (N := 57) hx hb hts (fun w h => List.mem_cons_of_mem _ (jnGB_X12 w h)) tyX12 tyX12_ok nmX12 hown hK hP hD hS 0 rfl rfl 21 (by decide) (hts _ (List.mem_cons_of_mem _ mGB_50)) (fun _ h9 => h9) rfl hin rfl (by decide +kernel) rfl rfl (Nat.le_of_ble_eq_true rfl) dX12_init_97 (fun H locs hP hD hS => ?_)
  have hP : va_P (dC, dI) vwCl [(h0, .inr (12, [.int 0, .int 0, .int 0, .int 0, .int 0, .int 0, .int 0, .int 0, .ref q_1, .ref q_3, .int 0, .ref q_5, .ref q_7, .ref q_9, .ref q_11, .ref q_13, .ref q_15, .int 0, .ref q_17, .ref q_19, .ref q_21, .ref q_23, .null, .int 0, .int 0, .null, .int 0, .int 0, .int 0, .int 0, .int 0, .int 0, .int 0, .int 0, .null, .null, .null, .int 0, .null, .null, .null, .int 0, .int 0, .int 0, .int 0, .int 0, .null, .int 0, .int 0, .int 0, .int 0, .int 0, .null, .null, .int 0, .null, .int 0])), (q_1, .inl (k_2, 6, .inl (fun _ => 0))), (q_3, .inl (k_4, 36, .inl (fun _ => 0))), (q_5, .inl (k_6, 24, .inl (fun _ => 0))), (q_7, .inl (k_8, 24, .inl (fun _ => 0))), (q_9, .inl (k_10, 24, .inl (fun _ => 0))), (q_11, .inl (k_12, 24, .inl (fun _ => 0))), (q_13, .inl (k_14, 24, .inl (fun _ => 0))), (q_15, .inl (k_16, 24, .inl (fun _ => 0))), (q_17, .inl (k_18, 8, .inl (fun _ => 0))), (q_19, .inl (k_20, 8, .inl (fun _ => 0))), (q_21, .inl (k_22, 8, .inl (fun _ => 0))), (q_23, .inl (k_24, 8, .inl (fun _ => 0)))] H := hP
  have hD : va_D A [(h0, .inr (12, [.int 0, .int 0, .int 0, .int 0, .int 0, .int 0, .int 0, .int 0, .ref q_1, .ref q_3, .int 0, .ref q_5, .ref q_7, .ref q_9, .ref q_11, .ref q_13, .ref q_15, .int 0, .ref q_17, .ref q_19, .ref q_21, .ref q_23, .null, .int 0, .int 0, .null, .int 0, .int 0, .int 0, .int 0, .int 0, .int 0, .int 0, .int 0, .null, .null, .null, .int 0, .null, .null, .null, .int 0, .int 0, .int 0, .int 0, .int 0, .null, .int 0, .int 0, .int 0, .int 0, .int 0, .null, .null, .int 0, .null, .int 0])), (q_1, .inl (k_2, 6, .inl (fun _ => 0))), (q_3, .inl (k_4, 36, .inl (fun _ => 0))), (q_5, .inl (k_6, 24, .inl (fun _ => 0))), (q_7, .inl (k_8, 24, .inl (fun _ => 0))), (q_9, .inl (k_10, 24, .inl (fun _ => 0))), (q_11, .inl (k_12, 24, .inl (fun _ => 0))), (q_13, .inl (k_14, 24, .inl (fun _ => 0))), (q_15, .inl (k_16, 24, .inl (fun _ => 0))), (q_17, .inl (k_18, 8, .inl (fun _ => 0))), (q_19, .inl (k_20, 8, .inl (fun _ => 0))), (q_21, .inl (k_22, 8, .inl (fun _ => 0))), (q_23, .inl (k_24, 8, .inl (fun _ => 0)))] := hD
  refine lv_aload_n hx hb dX12_init_100 rfl (lv_at hl 0 rfl) ?_
  refine lv_sipush (v := 300) hx hb dX12_init_101 (by decide) ?_
  refine va_newa (atype := .int) (ty := .int) (a0 := (300, .inl (fun _ => 0))) hx hb (hts _ (List.mem_cons_of_mem _ mGB_37)) rfl hK hP hD hS hA (fun _ => rfl) (by decide) (by decide) (Nat.le_of_ble_eq_true rfl) (Nat.le_of_ble_eq_true rfl) (Nat.le_of_ble_eq_true rfl) dX12_init_104 (fun q_25 k_26 H hK hP hD hS => ?_)
  have hP : va_P (dC, dI) vwCl [(h0, .inr (12, [.int 0, .int 0, .int 0, .int 0, .int 0, .int 0, .int 0, .int 0, .ref q_1, .ref q_3, .int 0, .ref q_5, .ref q_7, .ref q_9, .ref q_11, .ref q_13, .ref q_15, .int 0, .ref q_17, .ref q_19, .ref q_21, .ref q_23, .null, .int 0, .int 0, .null, .int 0, .int 0, .int 0, .int 0, .int 0, .int 0, .int 0, .int 0, .null, .null, .null, .int 0, .null, .null, .null, .int 0, .int 0, .int 0, .int 0, .int 0, .null, .int 0, .int 0, .int 0, .int 0, .int 0, .null, .null, .int 0, .null, .int 0])), (q_1, .inl (k_2, 6, .inl (fun _ => 0))), (q_3, .inl (k_4, 36, .inl (fun _ => 0))), (q_5, .inl (k_6, 24, .inl (fun _ => 0))), (q_7, .inl (k_8, 24, .inl (fun _ => 0))), (q_9, .inl (k_10, 24, .inl (fun _ => 0))), (q_11, .inl (k_12, 24, .inl (fun _ => 0))), (q_13, .inl (k_14, 24, .inl (fun _ => 0))), (q_15, .inl (k_16, 24, .inl (fun _ => 0))), (q_17, .inl (k_18, 8, .inl (fun _ => 0))), (q_19, .inl (k_20, 8, .inl (fun _ => 0))), (q_21, .inl (k_22, 8, .inl (fun _ => 0))), (q_23, .inl (k_24, 8, .inl (fun _ => 0))), (q_25, .inl (k_26, 300, .inl (fun _ => 0)))] H := hP
  have hD : va_D A [(h0, .inr (12, [.int 0, .int 0, .int 0, .int 0, .int 0, .int 0, .int 0, .int 0, .ref q_1, .ref q_3, .int 0, .ref q_5, .ref q_7, .ref q_9, .ref q_11, .ref q_13, .ref q_15, .int 0, .ref q_17, .ref q_19, .ref q_21, .ref q_23, .null, .int 0, .int 0, .null, .int 0, .int 0, .int 0, .int 0, .int 0, .int 0, .int 0, .int 0, .null, .null, .null, .int 0, .null, .null, .null, .int 0, .int 0, .int 0, .int 0, .int 0, .null, .int 0, .int 0, .int 0, .int 0, .int 0, .null, .null, .int 0, .null, .int 0])), (q_1, .inl (k_2, 6, .inl (fun _ => 0))), (q_3, .inl (k_4, 36, .inl (fun _ => 0))), (q_5, .inl (k_6, 24, .inl (fun _ => 0))), (q_7, .inl (k_8, 24, .inl (fun _ => 0))), (q_9, .inl (k_10, 24, .inl (fun _ => 0))), (q_11, .inl (k_12, 24, .inl (fun _ => 0))), (q_13, .inl (k_14, 24, .inl (fun _ => 0))), (q_15, .inl (k_16, 24, .inl (fun _ => 0))), (q_17, .inl (k_18, 8, .inl (fun _ => 0))), (q_19, .inl (k_20, 8, .inl (fun _ => 0))), (q_21, .inl (k_22, 8, .inl (fun _ => 0))), (q_23, .inl (k_24, 8, .inl (fun _ => 0))), (q_25, .inl (k_26, 300, .inl (fun _ => 0)))] := hD
  have hK : va_K (dC, dI) vwCl [(k_2, .int), (k_4, .int), (k_6, .int), (k_8, .int), (k_10, .boolean), (k_12, .int), (k_14, .int), (k_16, .int), (k_18, .int), (k_20, .int), (k_22, .int), (k_24, .int), (k_26, .int)] s := hK
  refine W.widen (k := 13) (n := 518) (Nat.le_of_ble_eq_true rfl) (Nat.le_of_ble_eq_true rfl) ?_
  refine va_putF (D := (dC, dI)) (ci := 12) (v := .ref q_25) (ty := .array .int) (C := RX12) (T := TX12) (N := 57) hx hb hts (fun w h => List.mem_cons_of_mem _ (jnGB_X12 w h)) tyX12 tyX12_ok nmX12 hown hK hP hD hS 0 rfl rfl 22 (by decide) (hts _ (List.mem_cons_of_mem _ mGB_51)) (fun _ h9 => h9) rfl hin rfl (by decide +kernel) rfl rfl (Nat.le_of_ble_eq_true rfl) dX12_init_106 (fun H locs hP hD hS => ?_)
  have hP : va_P (dC, dI) vwCl [(h0, .inr (12, [.int 0, .int 0, .int 0, .int 0, .int 0, .int 0, .int 0, .int 0, .ref q_1, .ref q_3, .int 0, .ref q_5, .ref q_7, .ref q_9, .ref q_11, .ref q_13, .ref q_15, .int 0, .ref q_17, .ref q_19, .ref q_21, .ref q_23, .ref q_25, .int 0, .int 0, .null, .int 0, .int 0, .int 0, .int 0, .int 0, .int 0, .int 0, .int 0, .null, .null, .null, .int 0, .null, .null, .null, .int 0, .int 0, .int 0, .int 0, .int 0, .null, .int 0, .int 0, .int 0, .int 0, .int 0, .null, .null, .int 0, .null, .int 0])), (q_1, .inl (k_2, 6, .inl (fun _ => 0))), (q_3, .inl (k_4, 36, .inl (fun _ => 0))), (q_5, .inl (k_6, 24, .inl (fun _ => 0))), (q_7, .inl (k_8, 24, .inl (fun _ => 0))), (q_9, .inl (k_10, 24, .inl (fun _ => 0))), (q_11, .inl (k_12, 24, .inl (fun _ => 0))), (q_13, .inl (k_14, 24, .inl (fun _ => 0))), (q_15, .inl (k_16, 24, .inl (fun _ => 0))), (q_17, .inl (k_18, 8, .inl (fun _ => 0))), (q_19, .inl (k_20, 8, .inl (fun _ => 0))), (q_21, .inl (k_22, 8, .inl (fun _ => 0))), (q_23, .inl (k_24, 8, .inl (fun _ => 0))), (q_25, .inl (k_26, 300, .inl (fun _ => 0)))] H := hP
  have hD : va_D A [(h0, .inr (12, [.int 0, .int 0, .int 0, .int 0, .int 0, .int 0, .int 0, .int 0, .ref q_1, .ref q_3, .int 0, .ref q_5, .ref q_7, .ref q_9, .ref q_11, .ref q_13, .ref q_15, .int 0, .ref q_17, .ref q_19, .ref q_21, .ref q_23, .ref q_25, .int 0, .int 0, .null, .int 0, .int 0, .int 0, .int 0, .int 0, .int 0, .int 0, .int 0, .null, .null, .null, .int 0, .null, .null, .null, .int 0, .int 0, .int 0, .int 0, .int 0, .null, .int 0, .int 0, .int 0, .int 0, .int 0, .null, .null, .int 0, .null, .int 0])), (q_1, .inl (k_2, 6, .inl (fun _ => 0))), (q_3, .inl (k_4, 36, .inl (fun _ => 0))), (q_5, .inl (k_6, 24, .inl (fun _ => 0))), (q_7, .inl (k_8, 24, .inl (fun _ => 0))), (q_9, .inl (k_10, 24, .inl (fun _ => 0))), (q_11, .inl (k_12, 24, .inl (fun _ => 0))), (q_13, .inl (k_14, 24, .inl (fun _ => 0))), (q_15, .inl (k_16, 24, .inl (fun _ => 0))), (q_17, .inl (k_18, 8, .inl (fun _ => 0))), (q_19, .inl (k_20, 8, .inl (fun _ => 0))), (q_21, .inl (k_22, 8, .inl (fun _ => 0))), (q_23, .inl (k_24, 8, .inl (fun _ => 0))), (q_25, .inl (k_26, 300, .inl (fun _ => 0)))] := hD
  refine lv_aload_n hx hb dX12_init_109 rfl (lv_at hl 0 rfl) ?_
  refine lv_sipush (v := 1600) hx hb dX12_init_110 (by decide) ?_
  refine va_newa (atype := .int) (ty := .int) (a0 := (1600, .inl (fun _ => 0))) hx hb (hts _ (List.mem_cons_of_mem _ mGB_37)) rfl hK hP hD hS hA (fun _ => rfl) (by decide) (by decide) (Nat.le_of_ble_eq_true rfl) (Nat.le_of_ble_eq_true rfl) (Nat.le_of_ble_eq_true rfl) dX12_init_113 (fun q_27 k_28 H hK hP hD hS => ?_)
  have hP : va_P (dC, dI) vwCl [(h0, .inr (12, [.int 0, .int 0, .int 0, .int 0, .int 0, .int 0, .int 0, .int 0, .ref q_1, .ref q_3, .int 0, .ref q_5, .ref q_7, .ref q_9, .ref q_11, .ref q_13, .ref q_15, .int 0, .ref q_17, .ref q_19, .ref q_21, .ref q_23, .ref q_25, .int 0, .int 0, .null, .int 0, .int 0, .int 0, .int 0, .int 0, .int 0, .int 0, .int 0, .null, .null, .null, .int 0, .null, .null, .null, .int 0, .int 0, .int 0, .int 0, .int 0, .null, .int 0, .int 0, .int 0, .int 0, .int 0, .null, .null, .int 0, .null, .int 0])), (q_1, .inl (k_2, 6, .inl (fun _ => 0))), (q_3, .inl (k_4, 36, .inl (fun _ => 0))), (q_5, .inl (k_6, 24, .inl (fun _ => 0))), (q_7, .inl (k_8, 24, .inl (fun _ => 0))), (q_9, .inl (k_10, 24, .inl (fun _ => 0))), (q_11, .inl (k_12, 24, .inl (fun _ => 0))), (q_13, .inl (k_14, 24, .inl (fun _ => 0))), (q_15, .inl (k_16, 24, .inl (fun _ => 0))), (q_17, .inl (k_18, 8, .inl (fun _ => 0))), (q_19, .inl (k_20, 8, .inl (fun _ => 0))), (q_21, .inl (k_22, 8, .inl (fun _ => 0))), (q_23, .inl (k_24, 8, .inl (fun _ => 0))), (q_25, .inl (k_26, 300, .inl (fun _ => 0))), (q_27, .inl (k_28, 1600, .inl (fun _ => 0)))] H := hP
  have hD : va_D A [(h0, .inr (12, [.int 0, .int 0, .int 0, .int 0, .int 0, .int 0, .int 0, .int 0, .ref q_1, .ref q_3, .int 0, .ref q_5, .ref q_7, .ref q_9, .ref q_11, .ref q_13, .ref q_15, .int 0, .ref q_17, .ref q_19, .ref q_21, .ref q_23, .ref q_25, .int 0, .int 0, .null, .int 0, .int 0, .int 0, .int 0, .int 0, .int 0, .int 0, .int 0, .null, .null, .null, .int 0, .null, .null, .null, .int 0, .int 0, .int 0, .int 0, .int 0, .null, .int 0, .int 0, .int 0, .int 0, .int 0, .null, .null, .int 0, .null, .int 0])), (q_1, .inl (k_2, 6, .inl (fun _ => 0))), (q_3, .inl (k_4, 36, .inl (fun _ => 0))), (q_5, .inl (k_6, 24, .inl (fun _ => 0))), (q_7, .inl (k_8, 24, .inl (fun _ => 0))), (q_9, .inl (k_10, 24, .inl (fun _ => 0))), (q_11, .inl (k_12, 24, .inl (fun _ => 0))), (q_13, .inl (k_14, 24, .inl (fun _ => 0))), (q_15, .inl (k_16, 24, .inl (fun _ => 0))), (q_17, .inl (k_18, 8, .inl (fun _ => 0))), (q_19, .inl (k_20, 8, .inl (fun _ => 0))), (q_21, .inl (k_22, 8, .inl (fun _ => 0))), (q_23, .inl (k_24, 8, .inl (fun _ => 0))), (q_25, .inl (k_26, 300, .inl (fun _ => 0))), (q_27, .inl (k_28, 1600, .inl (fun _ => 0)))] := hD
  have hK : va_K (dC, dI) vwCl [(k_2, .int), (k_4, .int), (k_6, .int), (k_8, .int), (k_10, .boolean), (k_12, .int), (k_14, .int), (k_16, .int), (k_18, .int), (k_20, .int), (k_22, .int), (k_24, .int), (k_26, .int), (k_28, .int)] s := hK
  refine W.widen (k := 14) (n := 2118) (Nat.le_of_ble_eq_true rfl) (Nat.le_of_ble_eq_true rfl) ?_
  refine va_putF (D := (dC, dI)) (ci := 12) (v := .ref q_27) (ty := .array .int) (C := RX12) (T := TX12) (N := 57) hx hb hts (fun w h => List.mem_cons_of_mem _ (jnGB_X12 w h)) tyX12 tyX12_ok nmX12 hown hK hP hD hS 0 rfl rfl 25 (by decide) (hts _ (List.mem_cons_of_mem _ mGB_52)) (fun _ h9 => h9) rfl hin rfl (by decide +kernel) rfl rfl (Nat.le_of_ble_eq_true rfl) dX12_init_115 (fun H locs hP hD hS => ?_)
  have hP : va_P (dC, dI) vwCl [(h0, .inr (12, [.int 0, .int 0, .int 0, .int 0, .int 0, .int 0, .int 0, .int 0, .ref q_1, .ref q_3, .int 0, .ref q_5, .ref q_7, .ref q_9, .ref q_11, .ref q_13, .ref q_15, .int 0, .ref q_17, .ref q_19, .ref q_21, .ref q_23, .ref q_25, .int 0, .int 0, .ref q_27, .int 0, .int 0, .int 0, .int 0, .int 0, .int 0, .int 0, .int 0, .null, .null, .null, .int 0, .null, .null, .null, .int 0, .int 0, .int 0, .int 0, .int 0, .null, .int 0, .int 0, .int 0, .int 0, .int 0, .null, .null, .int 0, .null, .int 0])), (q_1, .inl (k_2, 6, .inl (fun _ => 0))), (q_3, .inl (k_4, 36, .inl (fun _ => 0))), (q_5, .inl (k_6, 24, .inl (fun _ => 0))), (q_7, .inl (k_8, 24, .inl (fun _ => 0))), (q_9, .inl (k_10, 24, .inl (fun _ => 0))), (q_11, .inl (k_12, 24, .inl (fun _ => 0))), (q_13, .inl (k_14, 24, .inl (fun _ => 0))), (q_15, .inl (k_16, 24, .inl (fun _ => 0))), (q_17, .inl (k_18, 8, .inl (fun _ => 0))), (q_19, .inl (k_20, 8, .inl (fun _ => 0))), (q_21, .inl (k_22, 8, .inl (fun _ => 0))), (q_23, .inl (k_24, 8, .inl (fun _ => 0))), (q_25, .inl (k_26, 300, .inl (fun _ => 0))), (q_27, .inl (k_28, 1600, .inl (fun _ => 0)))] H := hP
  have hD : va_D A [(h0, .inr (12, [.int 0, .int 0, .int 0, .int 0, .int 0, .int 0, .int 0, .int 0, .ref q_1, .ref q_3, .int 0, .ref q_5, .ref q_7, .ref q_9, .ref q_11, .ref q_13, .ref q_15, .int 0, .ref q_17, .ref q_19, .ref q_21, .ref q_23, .ref q_25, .int 0, .int 0, .ref q_27, .int 0, .int 0, .int 0, .int 0, .int 0, .int 0, .int 0, .int 0, .null, .null, .null, .int 0, .null, .null, .null, .int 0, .int 0, .int 0, .int 0, .int 0, .null, .int 0, .int 0, .int 0, .int 0, .int 0, .null, .null, .int 0, .null, .int 0])), (q_1, .inl (k_2, 6, .inl (fun _ => 0))), (q_3, .inl (k_4, 36, .inl (fun _ => 0))), (q_5, .inl (k_6, 24, .inl (fun _ => 0))), (q_7, .inl (k_8, 24, .inl (fun _ => 0))), (q_9, .inl (k_10, 24, .inl (fun _ => 0))), (q_11, .inl (k_12, 24, .inl (fun _ => 0))), (q_13, .inl (k_14, 24, .inl (fun _ => 0))), (q_15, .inl (k_16, 24, .inl (fun _ => 0))), (q_17, .inl (k_18, 8, .inl (fun _ => 0))), (q_19, .inl (k_20, 8, .inl (fun _ => 0))), (q_21, .inl (k_22, 8, .inl (fun _ => 0))), (q_23, .inl (k_24, 8, .inl (fun _ => 0))), (q_25, .inl (k_26, 300, .inl (fun _ => 0))), (q_27, .inl (k_28, 1600, .inl (fun _ => 0)))] := hD
  refine lv_aload_n hx hb dX12_init_118 rfl (lv_at hl 0 rfl) ?_
  refine lv_iconst (v := (-1)) hx hb dX12_init_119 (by decide) ?_
  refine va_put (D := (dC, dI)) (ci := 12) (v := .int (-1)) (ty := .int) (C := RX12) (T := TX12) (N := 57) hx hb hts (fun w h => List.mem_cons_of_mem _ (jnGB_X12 w h)) tyX12 tyX12_ok nmX12 hown hK hP hD hS 0 rfl rfl 28 (by decide) (hts _ (List.mem_cons_of_mem _ mGB_25)) (fun _ h9 => h9) rfl (by decide +kernel) rfl rfl (Nat.le_of_ble_eq_true rfl) dX12_init_120 (fun H locs hP hD hS => ?_)
  have hP : va_P (dC, dI) vwCl [(h0, .inr (12, [.int 0, .int 0, .int 0, .int 0, .int 0, .int 0, .int 0, .int 0, .ref q_1, .ref q_3, .int 0, .ref q_5, .ref q_7, .ref q_9, .ref q_11, .ref q_13, .ref q_15, .int 0, .ref q_17, .ref q_19, .ref q_21, .ref q_23, .ref q_25, .int 0, .int 0, .ref q_27, .int 0, .int 0, .int (-1), .int 0, .int 0, .int 0, .int 0, .int 0, .null, .null, .null, .int 0, .null, .null, .null, .int 0, .int 0, .int 0, .int 0, .int 0, .null, .int 0, .int 0, .int 0, .int 0, .int 0, .null, .null, .int 0, .null, .int 0])), (q_1, .inl (k_2, 6, .inl (fun _ => 0))), (q_3, .inl (k_4, 36, .inl (fun _ => 0))), (q_5, .inl (k_6, 24, .inl (fun _ => 0))), (q_7, .inl (k_8, 24, .inl (fun _ => 0))), (q_9, .inl (k_10, 24, .inl (fun _ => 0))), (q_11, .inl (k_12, 24, .inl (fun _ => 0))), (q_13, .inl (k_14, 24, .inl (fun _ => 0))), (q_15, .inl (k_16, 24, .inl (fun _ => 0))), (q_17, .inl (k_18, 8, .inl (fun _ => 0))), (q_19, .inl (k_20, 8, .inl (fun _ => 0))), (q_21, .inl (k_22, 8, .inl (fun _ => 0))), (q_23, .inl (k_24, 8, .inl (fun _ => 0))), (q_25, .inl (k_26, 300, .inl (fun _ => 0))), (q_27, .inl (k_28, 1600, .inl (fun _ => 0)))] H := hP
  have hD : va_D A [(h0, .inr (12, [.int 0, .int 0, .int 0, .int 0, .int 0, .int 0, .int 0, .int 0, .ref q_1, .ref q_3, .int 0, .ref q_5, .ref q_7, .ref q_9, .ref q_11, .ref q_13, .ref q_15, .int 0, .ref q_17, .ref q_19, .ref q_21, .ref q_23, .ref q_25, .int 0, .int 0, .ref q_27, .int 0, .int 0, .int (-1), .int 0, .int 0, .int 0, .int 0, .int 0, .null, .null, .null, .int 0, .null, .null, .null, .int 0, .int 0, .int 0, .int 0, .int 0, .null, .int 0, .int 0, .int 0, .int 0, .int 0, .null, .null, .int 0, .null, .int 0])), (q_1, .inl (k_2, 6, .inl (fun _ => 0))), (q_3, .inl (k_4, 36, .inl (fun _ => 0))), (q_5, .inl (k_6, 24, .inl (fun _ => 0))), (q_7, .inl (k_8, 24, .inl (fun _ => 0))), (q_9, .inl (k_10, 24, .inl (fun _ => 0))), (q_11, .inl (k_12, 24, .inl (fun _ => 0))), (q_13, .inl (k_14, 24, .inl (fun _ => 0))), (q_15, .inl (k_16, 24, .inl (fun _ => 0))), (q_17, .inl (k_18, 8, .inl (fun _ => 0))), (q_19, .inl (k_20, 8, .inl (fun _ => 0))), (q_21, .inl (k_22, 8, .inl (fun _ => 0))), (q_23, .inl (k_24, 8, .inl (fun _ => 0))), (q_25, .inl (k_26, 300, .inl (fun _ => 0))), (q_27, .inl (k_28, 1600, .inl (fun _ => 0)))] := hD
  refine lv_aload_n hx hb dX12_init_123 rfl (lv_at hl 0 rfl) ?_
  refine lv_bipush (v := 25) hx hb dX12_init_124 (by decide) ?_
  refine va_newa (atype := .int) (ty := .int) (a0 := (25, .inl (fun _ => 0))) hx hb (hts _ (List.mem_cons_of_mem _ mGB_37)) rfl hK hP hD hS hA (fun _ => rfl) (by decide) (by decide) (Nat.le_of_ble_eq_true rfl) (Nat.le_of_ble_eq_true rfl) (Nat.le_of_ble_eq_true rfl) dX12_init_126 (fun q_29 k_30 H hK hP hD hS => ?_)
  have hP : va_P (dC, dI) vwCl [(h0, .inr (12, [.int 0, .int 0, .int 0, .int 0, .int 0, .int 0, .int 0, .int 0, .ref q_1, .ref q_3, .int 0, .ref q_5, .ref q_7, .ref q_9, .ref q_11, .ref q_13, .ref q_15, .int 0, .ref q_17, .ref q_19, .ref q_21, .ref q_23, .ref q_25, .int 0, .int 0, .ref q_27, .int 0, .int 0, .int (-1), .int 0, .int 0, .int 0, .int 0, .int 0, .null, .null, .null, .int 0, .null, .null, .null, .int 0, .int 0, .int 0, .int 0, .int 0, .null, .int 0, .int 0, .int 0, .int 0, .int 0, .null, .null, .int 0, .null, .int 0])), (q_1, .inl (k_2, 6, .inl (fun _ => 0))), (q_3, .inl (k_4, 36, .inl (fun _ => 0))), (q_5, .inl (k_6, 24, .inl (fun _ => 0))), (q_7, .inl (k_8, 24, .inl (fun _ => 0))), (q_9, .inl (k_10, 24, .inl (fun _ => 0))), (q_11, .inl (k_12, 24, .inl (fun _ => 0))), (q_13, .inl (k_14, 24, .inl (fun _ => 0))), (q_15, .inl (k_16, 24, .inl (fun _ => 0))), (q_17, .inl (k_18, 8, .inl (fun _ => 0))), (q_19, .inl (k_20, 8, .inl (fun _ => 0))), (q_21, .inl (k_22, 8, .inl (fun _ => 0))), (q_23, .inl (k_24, 8, .inl (fun _ => 0))), (q_25, .inl (k_26, 300, .inl (fun _ => 0))), (q_27, .inl (k_28, 1600, .inl (fun _ => 0))), (q_29, .inl (k_30, 25, .inl (fun _ => 0)))] H := hP
  have hD : va_D A [(h0, .inr (12, [.int 0, .int 0, .int 0, .int 0, .int 0, .int 0, .int 0, .int 0, .ref q_1, .ref q_3, .int 0, .ref q_5, .ref q_7, .ref q_9, .ref q_11, .ref q_13, .ref q_15, .int 0, .ref q_17, .ref q_19, .ref q_21, .ref q_23, .ref q_25, .int 0, .int 0, .ref q_27, .int 0, .int 0, .int (-1), .int 0, .int 0, .int 0, .int 0, .int 0, .null, .null, .null, .int 0, .null, .null, .null, .int 0, .int 0, .int 0, .int 0, .int 0, .null, .int 0, .int 0, .int 0, .int 0, .int 0, .null, .null, .int 0, .null, .int 0])), (q_1, .inl (k_2, 6, .inl (fun _ => 0))), (q_3, .inl (k_4, 36, .inl (fun _ => 0))), (q_5, .inl (k_6, 24, .inl (fun _ => 0))), (q_7, .inl (k_8, 24, .inl (fun _ => 0))), (q_9, .inl (k_10, 24, .inl (fun _ => 0))), (q_11, .inl (k_12, 24, .inl (fun _ => 0))), (q_13, .inl (k_14, 24, .inl (fun _ => 0))), (q_15, .inl (k_16, 24, .inl (fun _ => 0))), (q_17, .inl (k_18, 8, .inl (fun _ => 0))), (q_19, .inl (k_20, 8, .inl (fun _ => 0))), (q_21, .inl (k_22, 8, .inl (fun _ => 0))), (q_23, .inl (k_24, 8, .inl (fun _ => 0))), (q_25, .inl (k_26, 300, .inl (fun _ => 0))), (q_27, .inl (k_28, 1600, .inl (fun _ => 0))), (q_29, .inl (k_30, 25, .inl (fun _ => 0)))] := hD
  have hK : va_K (dC, dI) vwCl [(k_2, .int), (k_4, .int), (k_6, .int), (k_8, .int), (k_10, .boolean), (k_12, .int), (k_14, .int), (k_16, .int), (k_18, .int), (k_20, .int), (k_22, .int), (k_24, .int), (k_26, .int), (k_28, .int), (k_30, .int)] s := hK
  refine W.widen (k := 15) (n := 2143) (Nat.le_of_ble_eq_true rfl) (Nat.le_of_ble_eq_true rfl) ?_
  refine va_putF (D := (dC, dI)) (ci := 12) (v := .ref q_29) (ty := .array .int) (C := RX12) (T := TX12) (N := 57) hx hb hts (fun w h => List.mem_cons_of_mem _ (jnGB_X12 w h)) tyX12 tyX12_ok nmX12 hown hK hP hD hS 0 rfl rfl 34 (by decide) (hts _ (List.mem_cons_of_mem _ mGB_53)) (fun _ h9 => h9) rfl hin rfl (by decide +kernel) rfl rfl (Nat.le_of_ble_eq_true rfl) dX12_init_128 (fun H locs hP hD hS => ?_)
  have hP : va_P (dC, dI) vwCl [(h0, .inr (12, [.int 0, .int 0, .int 0, .int 0, .int 0, .int 0, .int 0, .int 0, .ref q_1, .ref q_3, .int 0, .ref q_5, .ref q_7, .ref q_9, .ref q_11, .ref q_13, .ref q_15, .int 0, .ref q_17, .ref q_19, .ref q_21, .ref q_23, .ref q_25, .int 0, .int 0, .ref q_27, .int 0, .int 0, .int (-1), .int 0, .int 0, .int 0, .int 0, .int 0, .ref q_29, .null, .null, .int 0, .null, .null, .null, .int 0, .int 0, .int 0, .int 0, .int 0, .null, .int 0, .int 0, .int 0, .int 0, .int 0, .null, .null, .int 0, .null, .int 0])), (q_1, .inl (k_2, 6, .inl (fun _ => 0))), (q_3, .inl (k_4, 36, .inl (fun _ => 0))), (q_5, .inl (k_6, 24, .inl (fun _ => 0))), (q_7, .inl (k_8, 24, .inl (fun _ => 0))), (q_9, .inl (k_10, 24, .inl (fun _ => 0))), (q_11, .inl (k_12, 24, .inl (fun _ => 0))), (q_13, .inl (k_14, 24, .inl (fun _ => 0))), (q_15, .inl (k_16, 24, .inl (fun _ => 0))), (q_17, .inl (k_18, 8, .inl (fun _ => 0))), (q_19, .inl (k_20, 8, .inl (fun _ => 0))), (q_21, .inl (k_22, 8, .inl (fun _ => 0))), (q_23, .inl (k_24, 8, .inl (fun _ => 0))), (q_25, .inl (k_26, 300, .inl (fun _ => 0))), (q_27, .inl (k_28, 1600, .inl (fun _ => 0))), (q_29, .inl (k_30, 25, .inl (fun _ => 0)))] H := hP
  have hD : va_D A [(h0, .inr (12, [.int 0, .int 0, .int 0, .int 0, .int 0, .int 0, .int 0, .int 0, .ref q_1, .ref q_3, .int 0, .ref q_5, .ref q_7, .ref q_9, .ref q_11, .ref q_13, .ref q_15, .int 0, .ref q_17, .ref q_19, .ref q_21, .ref q_23, .ref q_25, .int 0, .int 0, .ref q_27, .int 0, .int 0, .int (-1), .int 0, .int 0, .int 0, .int 0, .int 0, .ref q_29, .null, .null, .int 0, .null, .null, .null, .int 0, .int 0, .int 0, .int 0, .int 0, .null, .int 0, .int 0, .int 0, .int 0, .int 0, .null, .null, .int 0, .null, .int 0])), (q_1, .inl (k_2, 6, .inl (fun _ => 0))), (q_3, .inl (k_4, 36, .inl (fun _ => 0))), (q_5, .inl (k_6, 24, .inl (fun _ => 0))), (q_7, .inl (k_8, 24, .inl (fun _ => 0))), (q_9, .inl (k_10, 24, .inl (fun _ => 0))), (q_11, .inl (k_12, 24, .inl (fun _ => 0))), (q_13, .inl (k_14, 24, .inl (fun _ => 0))), (q_15, .inl (k_16, 24, .inl (fun _ => 0))), (q_17, .inl (k_18, 8, .inl (fun _ => 0))), (q_19, .inl (k_20, 8, .inl (fun _ => 0))), (q_21, .inl (k_22, 8, .inl (fun _ => 0))), (q_23, .inl (k_24, 8, .inl (fun _ => 0))), (q_25, .inl (k_26, 300, .inl (fun _ => 0))), (q_27, .inl (k_28, 1600, .inl (fun _ => 0))), (q_29, .inl (k_30, 25, .inl (fun _ => 0)))] := hD
  refine lv_aload_n hx hb dX12_init_131 rfl (lv_at hl 0 rfl) ?_
  refine lv_bipush (v := 25) hx hb dX12_init_132 (by decide) ?_
  refine va_newa (atype := .int) (ty := .int) (a0 := (25, .inl (fun _ => 0))) hx hb (hts _ (List.mem_cons_of_mem _ mGB_37)) rfl hK hP hD hS hA (fun _ => rfl) (by decide) (by decide) (Nat.le_of_ble_eq_true rfl) (Nat.le_of_ble_eq_true rfl) (Nat.le_of_ble_eq_true rfl) dX12_init_134 (fun q_31 k_32 H hK hP hD hS => ?_)
  have hP : va_P (dC, dI) vwCl [(h0, .inr (12, [.int 0, .int 0, .int 0, .int 0, .int 0, .int 0, .int 0, .int 0, .ref q_1, .ref q_3, .int 0, .ref q_5, .ref q_7, .ref q_9, .ref q_11, .ref q_13, .ref q_15, .int 0, .ref q_17, .ref q_19, .ref q_21, .ref q_23, .ref q_25, .int 0, .int 0, .ref q_27, .int 0, .int 0, .int (-1), .int 0, .int 0, .int 0, .int 0, .int 0, .ref q_29, .null, .null, .int 0, .null, .null, .null, .int 0, .int 0, .int 0, .int 0, .int 0, .null, .int 0, .int 0, .int 0, .int 0, .int 0, .null, .null, .int 0, .null, .int 0])), (q_1, .inl (k_2, 6, .inl (fun _ => 0))), (q_3, .inl (k_4, 36, .inl (fun _ => 0))), (q_5, .inl (k_6, 24, .inl (fun _ => 0))), (q_7, .inl (k_8, 24, .inl (fun _ => 0))), (q_9, .inl (k_10, 24, .inl (fun _ => 0))), (q_11, .inl (k_12, 24, .inl (fun _ => 0))), (q_13, .inl (k_14, 24, .inl (fun _ => 0))), (q_15, .inl (k_16, 24, .inl (fun _ => 0))), (q_17, .inl (k_18, 8, .inl (fun _ => 0))), (q_19, .inl (k_20, 8, .inl (fun _ => 0))), (q_21, .inl (k_22, 8, .inl (fun _ => 0))), (q_23, .inl (k_24, 8, .inl (fun _ => 0))), (q_25, .inl (k_26, 300, .inl (fun _ => 0))), (q_27, .inl (k_28, 1600, .inl (fun _ => 0))), (q_29, .inl (k_30, 25, .inl (fun _ => 0))), (q_31, .inl (k_32, 25, .inl (fun _ => 0)))] H := hP
  have hD : va_D A [(h0, .inr (12, [.int 0, .int 0, .int 0, .int 0, .int 0, .int 0, .int 0, .int 0, .ref q_1, .ref q_3, .int 0, .ref q_5, .ref q_7, .ref q_9, .ref q_11, .ref q_13, .ref q_15, .int 0, .ref q_17, .ref q_19, .ref q_21, .ref q_23, .ref q_25, .int 0, .int 0, .ref q_27, .int 0, .int 0, .int (-1), .int 0, .int 0, .int 0, .int 0, .int 0, .ref q_29, .null, .null, .int 0, .null, .null, .null, .int 0, .int 0, .int 0, .int 0, .int 0, .null, .int 0, .int 0, .int 0, .int 0, .int 0, .null, .null, .int 0, .null, .int 0])), (q_1, .inl (k_2, 6, .inl (fun _ => 0))), (q_3, .inl (k_4, 36, .inl (fun _ => 0))), (q_5, .inl (k_6, 24, .inl (fun _ => 0))), (q_7, .inl (k_8, 24, .inl (fun _ => 0))), (q_9, .inl (k_10, 24, .inl (fun _ => 0))), (q_11, .inl (k_12, 24, .inl (fun _ => 0))), (q_13, .inl (k_14, 24, .inl (fun _ => 0))), (q_15, .inl (k_16, 24, .inl (fun _ => 0))), (q_17, .inl (k_18, 8, .inl (fun _ => 0))), (q_19, .inl (k_20, 8, .inl (fun _ => 0))), (q_21, .inl (k_22, 8, .inl (fun _ => 0))), (q_23, .inl (k_24, 8, .inl (fun _ => 0))), (q_25, .inl (k_26, 300, .inl (fun _ => 0))), (q_27, .inl (k_28, 1600, .inl (fun _ => 0))), (q_29, .inl (k_30, 25, .inl (fun _ => 0))), (q_31, .inl (k_32, 25, .inl (fun _ => 0)))] := hD
  have hK : va_K (dC, dI) vwCl [(k_2, .int), (k_4, .int), (k_6, .int), (k_8, .int), (k_10, .boolean), (k_12, .int), (k_14, .int), (k_16, .int), (k_18, .int), (k_20, .int), (k_22, .int), (k_24, .int), (k_26, .int), (k_28, .int), (k_30, .int), (k_32, .int)] s := hK
  refine W.widen (k := 16) (n := 2168) (Nat.le_of_ble_eq_true rfl) (Nat.le_of_ble_eq_true rfl) ?_
  refine va_putF (D := (dC, dI)) (ci := 12) (v := .ref q_31) (ty := .array .int) (C := RX12) (T := TX12) (N := 57) hx hb hts (fun w h => List.mem_cons_of_mem _ (jnGB_X12 w h)) tyX12 tyX12_ok nmX12 hown hK hP hD hS 0 rfl rfl 35 (by decide) (hts _ (List.mem_cons_of_mem _ mGB_54)) (fun _ h9 => h9) rfl hin rfl (by decide +kernel) rfl rfl (Nat.le_of_ble_eq_true rfl) dX12_init_136 (fun H locs hP hD hS => ?_)
  have hP : va_P (dC, dI) vwCl [(h0, .inr (12, [.int 0, .int 0, .int 0, .int 0, .int 0, .int 0, .int 0, .int 0, .ref q_1, .ref q_3, .int 0, .ref q_5, .ref q_7, .ref q_9, .ref q_11, .ref q_13, .ref q_15, .int 0, .ref q_17, .ref q_19, .ref q_21, .ref q_23, .ref q_25, .int 0, .int 0, .ref q_27, .int 0, .int 0, .int (-1), .int 0, .int 0, .int 0, .int 0, .int 0, .ref q_29, .ref q_31, .null, .int 0, .null, .null, .null, .int 0, .int 0, .int 0, .int 0, .int 0, .null, .int 0, .int 0, .int 0, .int 0, .int 0, .null, .null, .int 0, .null, .int 0])), (q_1, .inl (k_2, 6, .inl (fun _ => 0))), (q_3, .inl (k_4, 36, .inl (fun _ => 0))), (q_5, .inl (k_6, 24, .inl (fun _ => 0))), (q_7, .inl (k_8, 24, .inl (fun _ => 0))), (q_9, .inl (k_10, 24, .inl (fun _ => 0))), (q_11, .inl (k_12, 24, .inl (fun _ => 0))), (q_13, .inl (k_14, 24, .inl (fun _ => 0))), (q_15, .inl (k_16, 24, .inl (fun _ => 0))), (q_17, .inl (k_18, 8, .inl (fun _ => 0))), (q_19, .inl (k_20, 8, .inl (fun _ => 0))), (q_21, .inl (k_22, 8, .inl (fun _ => 0))), (q_23, .inl (k_24, 8, .inl (fun _ => 0))), (q_25, .inl (k_26, 300, .inl (fun _ => 0))), (q_27, .inl (k_28, 1600, .inl (fun _ => 0))), (q_29, .inl (k_30, 25, .inl (fun _ => 0))), (q_31, .inl (k_32, 25, .inl (fun _ => 0)))] H := hP
  have hD : va_D A [(h0, .inr (12, [.int 0, .int 0, .int 0, .int 0, .int 0, .int 0, .int 0, .int 0, .ref q_1, .ref q_3, .int 0, .ref q_5, .ref q_7, .ref q_9, .ref q_11, .ref q_13, .ref q_15, .int 0, .ref q_17, .ref q_19, .ref q_21, .ref q_23, .ref q_25, .int 0, .int 0, .ref q_27, .int 0, .int 0, .int (-1), .int 0, .int 0, .int 0, .int 0, .int 0, .ref q_29, .ref q_31, .null, .int 0, .null, .null, .null, .int 0, .int 0, .int 0, .int 0, .int 0, .null, .int 0, .int 0, .int 0, .int 0, .int 0, .null, .null, .int 0, .null, .int 0])), (q_1, .inl (k_2, 6, .inl (fun _ => 0))), (q_3, .inl (k_4, 36, .inl (fun _ => 0))), (q_5, .inl (k_6, 24, .inl (fun _ => 0))), (q_7, .inl (k_8, 24, .inl (fun _ => 0))), (q_9, .inl (k_10, 24, .inl (fun _ => 0))), (q_11, .inl (k_12, 24, .inl (fun _ => 0))), (q_13, .inl (k_14, 24, .inl (fun _ => 0))), (q_15, .inl (k_16, 24, .inl (fun _ => 0))), (q_17, .inl (k_18, 8, .inl (fun _ => 0))), (q_19, .inl (k_20, 8, .inl (fun _ => 0))), (q_21, .inl (k_22, 8, .inl (fun _ => 0))), (q_23, .inl (k_24, 8, .inl (fun _ => 0))), (q_25, .inl (k_26, 300, .inl (fun _ => 0))), (q_27, .inl (k_28, 1600, .inl (fun _ => 0))), (q_29, .inl (k_30, 25, .inl (fun _ => 0))), (q_31, .inl (k_32, 25, .inl (fun _ => 0)))] := hD
  refine lv_aload_n hx hb dX12_init_139 rfl (lv_at hl 0 rfl) ?_
  refine lv_bipush (v := 25) hx hb dX12_init_140 (by decide) ?_
  refine va_newa (atype := .int) (ty := .int) (a0 := (25, .inl (fun _ => 0))) hx hb (hts _ (List.mem_cons_of_mem _ mGB_37)) rfl hK hP hD hS hA (fun _ => rfl) (by decide) (by decide) (Nat.le_of_ble_eq_true rfl) (Nat.le_of_ble_eq_true rfl) (Nat.le_of_ble_eq_true rfl) dX12_init_142 (fun q_33 k_34 H hK hP hD hS => ?_)
  have hP : va_P (dC, dI) vwCl [(h0, .inr (12, [.int 0, .int 0, .int 0, .int 0, .int 0, .int 0, .int 0, .int 0, .ref q_1, .ref q_3, .int 0, .ref q_5, .ref q_7, .ref q_9, .ref q_11, .ref q_13, .ref q_15, .int 0, .ref q_17, .ref q_19, .ref q_21, .ref q_23, .ref q_25, .int 0, .int 0, .ref q_27, .int 0, .int 0, .int (-1), .int 0, .int 0, .int 0, .int 0, .int 0, .ref q_29, .ref q_31, .null, .int 0, .null, .null, .null, .int 0, .int 0, .int 0, .int 0, .int 0, .null, .int 0, .int 0, .int 0, .int 0, .int 0, .null, .null, .int 0, .null, .int 0])), (q_1, .inl (k_2, 6, .inl (fun _ => 0))), (q_3, .inl (k_4, 36, .inl (fun _ => 0))), (q_5, .inl (k_6, 24, .inl (fun _ => 0))), (q_7, .inl (k_8, 24, .inl (fun _ => 0))), (q_9, .inl (k_10, 24, .inl (fun _ => 0))), (q_11, .inl (k_12, 24, .inl (fun _ => 0))), (q_13, .inl (k_14, 24, .inl (fun _ => 0))), (q_15, .inl (k_16, 24, .inl (fun _ => 0))), (q_17, .inl (k_18, 8, .inl (fun _ => 0))), (q_19, .inl (k_20, 8, .inl (fun _ => 0))), (q_21, .inl (k_22, 8, .inl (fun _ => 0))), (q_23, .inl (k_24, 8, .inl (fun _ => 0))), (q_25, .inl (k_26, 300, .inl (fun _ => 0))), (q_27, .inl (k_28, 1600, .inl (fun _ => 0))), (q_29, .inl (k_30, 25, .inl (fun _ => 0))), (q_31, .inl (k_32, 25, .inl (fun _ => 0))), (q_33, .inl (k_34, 25, .inl (fun _ => 0)))] H := hP
  have hD : va_D A [(h0, .inr (12, [.int 0, .int 0, .int 0, .int 0, .int 0, .int 0, .int 0, .int 0, .ref q_1, .ref q_3, .int 0, .ref q_5, .ref q_7, .ref q_9, .ref q_11, .ref q_13, .ref q_15, .int 0, .ref q_17, .ref q_19, .ref q_21, .ref q_23, .ref q_25, .int 0, .int 0, .ref q_27, .int 0, .int 0, .int (-1), .int 0, .int 0, .int 0, .int 0, .int 0, .ref q_29, .ref q_31, .null, .int 0, .null, .null, .null, .int 0, .int 0, .int 0, .int 0, .int 0, .null, .int 0, .int 0, .int 0, .int 0, .int 0, .null, .null, .int 0, .null, .int 0])), (q_1, .inl (k_2, 6, .inl (fun _ => 0))), (q_3, .inl (k_4, 36, .inl (fun _ => 0))), (q_5, .inl (k_6, 24, .inl (fun _ => 0))), (q_7, .inl (k_8, 24, .inl (fun _ => 0))), (q_9, .inl (k_10, 24, .inl (fun _ => 0))), (q_11, .inl (k_12, 24, .inl (fun _ => 0))), (q_13, .inl (k_14, 24, .inl (fun _ => 0))), (q_15, .inl (k_16, 24, .inl (fun _ => 0))), (q_17, .inl (k_18, 8, .inl (fun _ => 0))), (q_19, .inl (k_20, 8, .inl (fun _ => 0))), (q_21, .inl (k_22, 8, .inl (fun _ => 0))), (q_23, .inl (k_24, 8, .inl (fun _ => 0))), (q_25, .inl (k_26, 300, .inl (fun _ => 0))), (q_27, .inl (k_28, 1600, .inl (fun _ => 0))), (q_29, .inl (k_30, 25, .inl (fun _ => 0))), (q_31, .inl (k_32, 25, .inl (fun _ => 0))), (q_33, .inl (k_34, 25, .inl (fun _ => 0)))] := hD
  have hK : va_K (dC, dI) vwCl [(k_2, .int), (k_4, .int), (k_6, .int), (k_8, .int), (k_10, .boolean), (k_12, .int), (k_14, .int), (k_16, .int), (k_18, .int), (k_20, .int), (k_22, .int), (k_24, .int), (k_26, .int), (k_28, .int), (k_30, .int), (k_32, .int), (k_34, .int)] s := hK
  refine W.widen (k := 17) (n := 2193) (Nat.le_of_ble_eq_true rfl) (Nat.le_of_ble_eq_true rfl) ?_
  refine va_putF (D := (dC, dI)) (ci := 12) (v := .ref q_33) (ty := .array .int) (C := RX12) (T := TX12) (N := 57) hx hb hts (fun w h => List.mem_cons_of_mem _ (jnGB_X12 w h)) tyX12 tyX12_ok nmX12 hown hK hP hD hS 0 rfl rfl 36 (by decide) (hts _ (List.mem_cons_of_mem _ mGB_55)) (fun _ h9 => h9) rfl hin rfl (by decide +kernel) rfl rfl (Nat.le_of_ble_eq_true rfl) dX12_init_144 (fun H locs hP hD hS => ?_)
  have hP : va_P (dC, dI) vwCl [(h0, .inr (12, [.int 0, .int 0, .int 0, .int 0, .int 0, .int 0, .int 0, .int 0, .ref q_1, .ref q_3, .int 0, .ref q_5, .ref q_7, .ref q_9, .ref q_11, .ref q_13, .ref q_15, .int 0, .ref q_17, .ref q_19, .ref q_21, .ref q_23, .ref q_25, .int 0, .int 0, .ref q_27, .int 0, .int 0, .int (-1), .int 0, .int 0, .int 0, .int 0, .int 0, .ref q_29, .ref q_31, .ref q_33, .int 0, .null, .null, .null, .int 0, .int 0, .int 0, .int 0, .int 0, .null, .int 0, .int 0, .int 0, .int 0, .int 0, .null, .null, .int 0, .null, .int 0])), (q_1, .inl (k_2, 6, .inl (fun _ => 0))), (q_3, .inl (k_4, 36, .inl (fun _ => 0))), (q_5, .inl (k_6, 24, .inl (fun _ => 0))), (q_7, .inl (k_8, 24, .inl (fun _ => 0))), (q_9, .inl (k_10, 24, .inl (fun _ => 0))), (q_11, .inl (k_12, 24, .inl (fun _ => 0))), (q_13, .inl (k_14, 24, .inl (fun _ => 0))), (q_15, .inl (k_16, 24, .inl (fun _ => 0))), (q_17, .inl (k_18, 8, .inl (fun _ => 0))), (q_19, .inl (k_20, 8, .inl (fun _ => 0))), (q_21, .inl (k_22, 8, .inl (fun _ => 0))), (q_23, .inl (k_24, 8, .inl (fun _ => 0))), (q_25, .inl (k_26, 300, .inl (fun _ => 0))), (q_27, .inl (k_28, 1600, .inl (fun _ => 0))), (q_29, .inl (k_30, 25, .inl (fun _ => 0))), (q_31, .inl (k_32, 25, .inl (fun _ => 0))), (q_33, .inl (k_34, 25, .inl (fun _ => 0)))] H := hP
  have hD : va_D A [(h0, .inr (12, [.int 0, .int 0, .int 0, .int 0, .int 0, .int 0, .int 0, .int 0, .ref q_1, .ref q_3, .int 0, .ref q_5, .ref q_7, .ref q_9, .ref q_11, .ref q_13, .ref q_15, .int 0, .ref q_17, .ref q_19, .ref q_21, .ref q_23, .ref q_25, .int 0, .int 0, .ref q_27, .int 0, .int 0, .int (-1), .int 0, .int 0, .int 0, .int 0, .int 0, .ref q_29, .ref q_31, .ref q_33, .int 0, .null, .null, .null, .int 0, .int 0, .int 0, .int 0, .int 0, .null, .int 0, .int 0, .int 0, .int 0, .int 0, .null, .null, .int 0, .null, .int 0])), (q_1, .inl (k_2, 6, .inl (fun _ => 0))), (q_3, .inl (k_4, 36, .inl (fun _ => 0))), (q_5, .inl (k_6, 24, .inl (fun _ => 0))), (q_7, .inl (k_8, 24, .inl (fun _ => 0))), (q_9, .inl (k_10, 24, .inl (fun _ => 0))), (q_11, .inl (k_12, 24, .inl (fun _ => 0))), (q_13, .inl (k_14, 24, .inl (fun _ => 0))), (q_15, .inl (k_16, 24, .inl (fun _ => 0))), (q_17, .inl (k_18, 8, .inl (fun _ => 0))), (q_19, .inl (k_20, 8, .inl (fun _ => 0))), (q_21, .inl (k_22, 8, .inl (fun _ => 0))), (q_23, .inl (k_24, 8, .inl (fun _ => 0))), (q_25, .inl (k_26, 300, .inl (fun _ => 0))), (q_27, .inl (k_28, 1600, .inl (fun _ => 0))), (q_29, .inl (k_30, 25, .inl (fun _ => 0))), (q_31, .inl (k_32, 25, .inl (fun _ => 0))), (q_33, .inl (k_34, 25, .inl (fun _ => 0)))] := hD
  refine lv_aload_n hx hb dX12_init_147 rfl (lv_at hl 0 rfl) ?_
  refine lv_sipush (v := 6875) hx hb dX12_init_148 (by decide) ?_
  refine va_newa (atype := .int) (ty := .int) (a0 := (6875, .inl (fun _ => 0))) hx hb (hts _ (List.mem_cons_of_mem _ mGB_37)) rfl hK hP hD hS hA (fun _ => rfl) (by decide) (by decide) (Nat.le_of_ble_eq_true rfl) (Nat.le_of_ble_eq_true rfl) (Nat.le_of_ble_eq_true rfl) dX12_init_151 (fun q_35 k_36 H hK hP hD hS => ?_)
  have hP : va_P (dC, dI) vwCl [(h0, .inr (12, [.int 0, .int 0, .int 0, .int 0, .int 0, .int 0, .int 0, .int 0, .ref q_1, .ref q_3, .int 0, .ref q_5, .ref q_7, .ref q_9, .ref q_11, .ref q_13, .ref q_15, .int 0, .ref q_17, .ref q_19, .ref q_21, .ref q_23, .ref q_25, .int 0, .int 0, .ref q_27, .int 0, .int 0, .int (-1), .int 0, .int 0, .int 0, .int 0, .int 0, .ref q_29, .ref q_31, .ref q_33, .int 0, .null, .null, .null, .int 0, .int 0, .int 0, .int 0, .int 0, .null, .int 0, .int 0, .int 0, .int 0, .int 0, .null, .null, .int 0, .null, .int 0])), (q_1, .inl (k_2, 6, .inl (fun _ => 0))), (q_3, .inl (k_4, 36, .inl (fun _ => 0))), (q_5, .inl (k_6, 24, .inl (fun _ => 0))), (q_7, .inl (k_8, 24, .inl (fun _ => 0))), (q_9, .inl (k_10, 24, .inl (fun _ => 0))), (q_11, .inl (k_12, 24, .inl (fun _ => 0))), (q_13, .inl (k_14, 24, .inl (fun _ => 0))), (q_15, .inl (k_16, 24, .inl (fun _ => 0))), (q_17, .inl (k_18, 8, .inl (fun _ => 0))), (q_19, .inl (k_20, 8, .inl (fun _ => 0))), (q_21, .inl (k_22, 8, .inl (fun _ => 0))), (q_23, .inl (k_24, 8, .inl (fun _ => 0))), (q_25, .inl (k_26, 300, .inl (fun _ => 0))), (q_27, .inl (k_28, 1600, .inl (fun _ => 0))), (q_29, .inl (k_30, 25, .inl (fun _ => 0))), (q_31, .inl (k_32, 25, .inl (fun _ => 0))), (q_33, .inl (k_34, 25, .inl (fun _ => 0))), (q_35, .inl (k_36, 6875, .inl (fun _ => 0)))] H := hP
  have hD : va_D A [(h0, .inr (12, [.int 0, .int 0, .int 0, .int 0, .int 0, .int 0, .int 0, .int 0, .ref q_1, .ref q_3, .int 0, .ref q_5, .ref q_7, .ref q_9, .ref q_11, .ref q_13, .ref q_15, .int 0, .ref q_17, .ref q_19, .ref q_21, .ref q_23, .ref q_25, .int 0, .int 0, .ref q_27, .int 0, .int 0, .int (-1), .int 0, .int 0, .int 0, .int 0, .int 0, .ref q_29, .ref q_31, .ref q_33, .int 0, .null, .null, .null, .int 0, .int 0, .int 0, .int 0, .int 0, .null, .int 0, .int 0, .int 0, .int 0, .int 0, .null, .null, .int 0, .null, .int 0])), (q_1, .inl (k_2, 6, .inl (fun _ => 0))), (q_3, .inl (k_4, 36, .inl (fun _ => 0))), (q_5, .inl (k_6, 24, .inl (fun _ => 0))), (q_7, .inl (k_8, 24, .inl (fun _ => 0))), (q_9, .inl (k_10, 24, .inl (fun _ => 0))), (q_11, .inl (k_12, 24, .inl (fun _ => 0))), (q_13, .inl (k_14, 24, .inl (fun _ => 0))), (q_15, .inl (k_16, 24, .inl (fun _ => 0))), (q_17, .inl (k_18, 8, .inl (fun _ => 0))), (q_19, .inl (k_20, 8, .inl (fun _ => 0))), (q_21, .inl (k_22, 8, .inl (fun _ => 0))), (q_23, .inl (k_24, 8, .inl (fun _ => 0))), (q_25, .inl (k_26, 300, .inl (fun _ => 0))), (q_27, .inl (k_28, 1600, .inl (fun _ => 0))), (q_29, .inl (k_30, 25, .inl (fun _ => 0))), (q_31, .inl (k_32, 25, .inl (fun _ => 0))), (q_33, .inl (k_34, 25, .inl (fun _ => 0))), (q_35, .inl (k_36, 6875, .inl (fun _ => 0)))] := hD
  have hK : va_K (dC, dI) vwCl [(k_2, .int), (k_4, .int), (k_6, .int), (k_8, .int), (k_10, .boolean), (k_12, .int), (k_14, .int), (k_16, .int), (k_18, .int), (k_20, .int), (k_22, .int), (k_24, .int), (k_26, .int), (k_28, .int), (k_30, .int), (k_32, .int), (k_34, .int), (k_36, .int)] s := hK
  refine W.widen (k := 18) (n := 9068) (Nat.le_of_ble_eq_true rfl) (Nat.le_of_ble_eq_true rfl) ?_
  refine va_putF (D := (dC, dI)) (ci := 12) (v := .ref q_35) (ty := .array .int) (C := RX12) (T := TX12) (N := 57) hx hb hts (fun w h => List.mem_cons_of_mem _ (jnGB_X12 w h)) tyX12 tyX12_ok nmX12 hown hK hP hD hS 0 rfl rfl 38 (by decide) (hts _ (List.mem_cons_of_mem _ mGB_56)) (fun _ h9 => h9) rfl hin rfl (by decide +kernel) rfl rfl (Nat.le_of_ble_eq_true rfl) dX12_init_153 (fun H locs hP hD hS => ?_)
  have hP : va_P (dC, dI) vwCl [(h0, .inr (12, [.int 0, .int 0, .int 0, .int 0, .int 0, .int 0, .int 0, .int 0, .ref q_1, .ref q_3, .int 0, .ref q_5, .ref q_7, .ref q_9, .ref q_11, .ref q_13, .ref q_15, .int 0, .ref q_17, .ref q_19, .ref q_21, .ref q_23, .ref q_25, .int 0, .int 0, .ref q_27, .int 0, .int 0, .int (-1), .int 0, .int 0, .int 0, .int 0, .int 0, .ref q_29, .ref q_31, .ref q_33, .int 0, .ref q_35, .null, .null, .int 0, .int 0, .int 0, .int 0, .int 0, .null, .int 0, .int 0, .int 0, .int 0, .int 0, .null, .null, .int 0, .null, .int 0])), (q_1, .inl (k_2, 6, .inl (fun _ => 0))), (q_3, .inl (k_4, 36, .inl (fun _ => 0))), (q_5, .inl (k_6, 24, .inl (fun _ => 0))), (q_7, .inl (k_8, 24, .inl (fun _ => 0))), (q_9, .inl (k_10, 24, .inl (fun _ => 0))), (q_11, .inl (k_12, 24, .inl (fun _ => 0))), (q_13, .inl (k_14, 24, .inl (fun _ => 0))), (q_15, .inl (k_16, 24, .inl (fun _ => 0))), (q_17, .inl (k_18, 8, .inl (fun _ => 0))), (q_19, .inl (k_20, 8, .inl (fun _ => 0))), (q_21, .inl (k_22, 8, .inl (fun _ => 0))), (q_23, .inl (k_24, 8, .inl (fun _ => 0))), (q_25, .inl (k_26, 300, .inl (fun _ => 0))), (q_27, .inl (k_28, 1600, .inl (fun _ => 0))), (q_29, .inl (k_30, 25, .inl (fun _ => 0))), (q_31, .inl (k_32, 25, .inl (fun _ => 0))), (q_33, .inl (k_34, 25, .inl (fun _ => 0))), (q_35, .inl (k_36, 6875, .inl (fun _ => 0)))] H := hP
  have hD : va_D A [(h0, .inr (12, [.int 0, .int 0, .int 0, .int 0, .int 0, .int 0, .int 0, .int 0, .ref q_1, .ref q_3, .int 0, .ref q_5, .ref q_7, .ref q_9, .ref q_11, .ref q_13, .ref q_15, .int 0, .ref q_17, .ref q_19, .ref q_21, .ref q_23, .ref q_25, .int 0, .int 0, .ref q_27, .int 0, .int 0, .int (-1), .int 0, .int 0, .int 0, .int 0, .int 0, .ref q_29, .ref q_31, .ref q_33, .int 0, .ref q_35, .null, .null, .int 0, .int 0, .int 0, .int 0, .int 0, .null, .int 0, .int 0, .int 0, .int 0, .int 0, .null, .null, .int 0, .null, .int 0])), (q_1, .inl (k_2, 6, .inl (fun _ => 0))), (q_3, .inl (k_4, 36, .inl (fun _ => 0))), (q_5, .inl (k_6, 24, .inl (fun _ => 0))), (q_7, .inl (k_8, 24, .inl (fun _ => 0))), (q_9, .inl (k_10, 24, .inl (fun _ => 0))), (q_11, .inl (k_12, 24, .inl (fun _ => 0))), (q_13, .inl (k_14, 24, .inl (fun _ => 0))), (q_15, .inl (k_16, 24, .inl (fun _ => 0))), (q_17, .inl (k_18, 8, .inl (fun _ => 0))), (q_19, .inl (k_20, 8, .inl (fun _ => 0))), (q_21, .inl (k_22, 8, .inl (fun _ => 0))), (q_23, .inl (k_24, 8, .inl (fun _ => 0))), (q_25, .inl (k_26, 300, .inl (fun _ => 0))), (q_27, .inl (k_28, 1600, .inl (fun _ => 0))), (q_29, .inl (k_30, 25, .inl (fun _ => 0))), (q_31, .inl (k_32, 25, .inl (fun _ => 0))), (q_33, .inl (k_34, 25, .inl (fun _ => 0))), (q_35, .inl (k_36, 6875, .inl (fun _ => 0)))] := hD
  refine lv_aload_n hx hb dX12_init_156 rfl (lv_at hl 0 rfl) ?_
  refine lv_bipush (v := 24) hx hb dX12_init_157 (by decide) ?_
  refine va_newa (atype := .int) (ty := .int) (a0 := (24, .inl (fun _ => 0))) hx hb (hts _ (List.mem_cons_of_mem _ mGB_37)) rfl hK hP hD hS hA (fun _ => rfl) (by decide) (by decide) (Nat.le_of_ble_eq_true rfl) (Nat.le_of_ble_eq_true rfl) (Nat.le_of_ble_eq_true rfl) dX12_init_159 (fun q_37 k_38 H hK hP hD hS => ?_)
  have hP : va_P (dC, dI) vwCl [(h0, .inr (12, [.int 0, .int 0, .int 0, .int 0, .int 0, .int 0, .int 0, .int 0, .ref q_1, .ref q_3, .int 0, .ref q_5, .ref q_7, .ref q_9, .ref q_11, .ref q_13, .ref q_15, .int 0, .ref q_17, .ref q_19, .ref q_21, .ref q_23, .ref q_25, .int 0, .int 0, .ref q_27, .int 0, .int 0, .int (-1), .int 0, .int 0, .int 0, .int 0, .int 0, .ref q_29, .ref q_31, .ref q_33, .int 0, .ref q_35, .null, .null, .int 0, .int 0, .int 0, .int 0, .int 0, .null, .int 0, .int 0, .int 0, .int 0, .int 0, .null, .null, .int 0, .null, .int 0])), (q_1, .inl (k_2, 6, .inl (fun _ => 0))), (q_3, .inl (k_4, 36, .inl (fun _ => 0))), (q_5, .inl (k_6, 24, .inl (fun _ => 0))), (q_7, .inl (k_8, 24, .inl (fun _ => 0))), (q_9, .inl (k_10, 24, .inl (fun _ => 0))), (q_11, .inl (k_12, 24, .inl (fun _ => 0))), (q_13, .inl (k_14, 24, .inl (fun _ => 0))), (q_15, .inl (k_16, 24, .inl (fun _ => 0))), (q_17, .inl (k_18, 8, .inl (fun _ => 0))), (q_19, .inl (k_20, 8, .inl (fun _ => 0))), (q_21, .inl (k_22, 8, .inl (fun _ => 0))), (q_23, .inl (k_24, 8, .inl (fun _ => 0))), (q_25, .inl (k_26, 300, .inl (fun _ => 0))), (q_27, .inl (k_28, 1600, .inl (fun _ => 0))), (q_29, .inl (k_30, 25, .inl (fun _ => 0))), (q_31, .inl (k_32, 25, .inl (fun _ => 0))), (q_33, .inl (k_34, 25, .inl (fun _ => 0))), (q_35, .inl (k_36, 6875, .inl (fun _ => 0))), (q_37, .inl (k_38, 24, .inl (fun _ => 0)))] H := hP
  have hD : va_D A [(h0, .inr (12, [.int 0, .int 0, .int 0, .int 0, .int 0, .int 0, .int 0, .int 0, .ref q_1, .ref q_3, .int 0, .ref q_5, .ref q_7, .ref q_9, .ref q_11, .ref q_13, .ref q_15, .int 0, .ref q_17, .ref q_19, .ref q_21, .ref q_23, .ref q_25, .int 0, .int 0, .ref q_27, .int 0, .int 0, .int (-1), .int 0, .int 0, .int 0, .int 0, .int 0, .ref q_29, .ref q_31, .ref q_33, .int 0, .ref q_35, .null, .null, .int 0, .int 0, .int 0, .int 0, .int 0, .null, .int 0, .int 0, .int 0, .int 0, .int 0, .null, .null, .int 0, .null, .int 0])), (q_1, .inl (k_2, 6, .inl (fun _ => 0))), (q_3, .inl (k_4, 36, .inl (fun _ => 0))), (q_5, .inl (k_6, 24, .inl (fun _ => 0))), (q_7, .inl (k_8, 24, .inl (fun _ => 0))), (q_9, .inl (k_10, 24, .inl (fun _ => 0))), (q_11, .inl (k_12, 24, .inl (fun _ => 0))), (q_13, .inl (k_14, 24, .inl (fun _ => 0))), (q_15, .inl (k_16, 24, .inl (fun _ => 0))), (q_17, .inl (k_18, 8, .inl (fun _ => 0))), (q_19, .inl (k_20, 8, .inl (fun _ => 0))), (q_21, .inl (k_22, 8, .inl (fun _ => 0))), (q_23, .inl (k_24, 8, .inl (fun _ => 0))), (q_25, .inl (k_26, 300, .inl (fun _ => 0))), (q_27, .inl (k_28, 1600, .inl (fun _ => 0))), (q_29, .inl (k_30, 25, .inl (fun _ => 0))), (q_31, .inl (k_32, 25, .inl (fun _ => 0))), (q_33, .inl (k_34, 25, .inl (fun _ => 0))), (q_35, .inl (k_36, 6875, .inl (fun _ => 0))), (q_37, .inl (k_38, 24, .inl (fun _ => 0)))] := hD
  have hK : va_K (dC, dI) vwCl [(k_2, .int), (k_4, .int), (k_6, .int), (k_8, .int), (k_10, .boolean), (k_12, .int), (k_14, .int), (k_16, .int), (k_18, .int), (k_20, .int), (k_22, .int), (k_24, .int), (k_26, .int), (k_28, .int), (k_30, .int), (k_32, .int), (k_34, .int), (k_36, .int), (k_38, .int)] s := hK
  refine W.widen (k := 19) (n := 9092) (Nat.le_of_ble_eq_true rfl) (Nat.le_of_ble_eq_true rfl) ?_
  refine va_putF (D := (dC, dI)) (ci := 12) (v := .ref q_37) (ty := .array .int) (C := RX12) (T := TX12) (N := 57) hx hb hts (fun w h => List.mem_cons_of_mem _ (jnGB_X12 w h)) tyX12 tyX12_ok nmX12 hown hK hP hD hS 0 rfl rfl 39 (by decide) (hts _ (List.mem_cons_of_mem _ mGB_57)) (fun _ h9 => h9) rfl hin rfl (by decide +kernel) rfl rfl (Nat.le_of_ble_eq_true rfl) dX12_init_161 (fun H locs hP hD hS => ?_)
  have hP : va_P (dC, dI) vwCl [(h0, .inr (12, [.int 0, .int 0, .int 0, .int 0, .int 0, .int 0, .int 0, .int 0, .ref q_1, .ref q_3, .int 0, .ref q_5, .ref q_7, .ref q_9, .ref q_11, .ref q_13, .ref q_15, .int 0, .ref q_17, .ref q_19, .ref q_21, .ref q_23, .ref q_25, .int 0, .int 0, .ref q_27, .int 0, .int 0, .int (-1), .int 0, .int 0, .int 0, .int 0, .int 0, .ref q_29, .ref q_31, .ref q_33, .int 0, .ref q_35, .ref q_37, .null, .int 0, .int 0, .int 0, .int 0, .int 0, .null, .int 0, .int 0, .int 0, .int 0, .int 0, .null, .null, .int 0, .null, .int 0])), (q_1, .inl (k_2, 6, .inl (fun _ => 0))), (q_3, .inl (k_4, 36, .inl (fun _ => 0))), (q_5, .inl (k_6, 24, .inl (fun _ => 0))), (q_7, .inl (k_8, 24, .inl (fun _ => 0))), (q_9, .inl (k_10, 24, .inl (fun _ => 0))), (q_11, .inl (k_12, 24, .inl (fun _ => 0))), (q_13, .inl (k_14, 24, .inl (fun _ => 0))), (q_15, .inl (k_16, 24, .inl (fun _ => 0))), (q_17, .inl (k_18, 8, .inl (fun _ => 0))), (q_19, .inl (k_20, 8, .inl (fun _ => 0))), (q_21, .inl (k_22, 8, .inl (fun _ => 0))), (q_23, .inl (k_24, 8, .inl (fun _ => 0))), (q_25, .inl (k_26, 300, .inl (fun _ => 0))), (q_27, .inl (k_28, 1600, .inl (fun _ => 0))), (q_29, .inl (k_30, 25, .inl (fun _ => 0))), (q_31, .inl (k_32, 25, .inl (fun _ => 0))), (q_33, .inl (k_34, 25, .inl (fun _ => 0))), (q_35, .inl (k_36, 6875, .inl (fun _ => 0))), (q_37, .inl (k_38, 24, .inl (fun _ => 0)))] H := hP
  have hD : va_D A [(h0, .inr (12, [.int 0, .int 0, .int 0, .int 0, .int 0, .int 0, .int 0, .int 0, .ref q_1, .ref q_3, .int 0, .ref q_5, .ref q_7, .ref q_9, .ref q_11, .ref q_13, .ref q_15, .int 0, .ref q_17, .ref q_19, .ref q_21, .ref q_23, .ref q_25, .int 0, .int 0, .ref q_27, .int 0, .int 0, .int (-1), .int 0, .int 0, .int 0, .int 0, .int 0, .ref q_29, .ref q_31, .ref q_33, .int 0, .ref q_35, .ref q_37, .null, .int 0, .int 0, .int 0, .int 0, .int 0, .null, .int 0, .int 0, .int 0, .int 0, .int 0, .null, .null, .int 0, .null, .int 0])), (q_1, .inl (k_2, 6, .inl (fun _ => 0))), (q_3, .inl (k_4, 36, .inl (fun _ => 0))), (q_5, .inl (k_6, 24, .inl (fun _ => 0))), (q_7, .inl (k_8, 24, .inl (fun _ => 0))), (q_9, .inl (k_10, 24, .inl (fun _ => 0))), (q_11, .inl (k_12, 24, .inl (fun _ => 0))), (q_13, .inl (k_14, 24, .inl (fun _ => 0))), (q_15, .inl (k_16, 24, .inl (fun _ => 0))), (q_17, .inl (k_18, 8, .inl (fun _ => 0))), (q_19, .inl (k_20, 8, .inl (fun _ => 0))), (q_21, .inl (k_22, 8, .inl (fun _ => 0))), (q_23, .inl (k_24, 8, .inl (fun _ => 0))), (q_25, .inl (k_26, 300, .inl (fun _ => 0))), (q_27, .inl (k_28, 1600, .inl (fun _ => 0))), (q_29, .inl (k_30, 25, .inl (fun _ => 0))), (q_31, .inl (k_32, 25, .inl (fun _ => 0))), (q_33, .inl (k_34, 25, .inl (fun _ => 0))), (q_35, .inl (k_36, 6875, .inl (fun _ => 0))), (q_37, .inl (k_38, 24, .inl (fun _ => 0)))] := hD
  refine lv_aload_n hx hb dX12_init_164 rfl (lv_at hl 0 rfl) ?_
  refine lv_bipush (v := 24) hx hb dX12_init_165 (by decide) ?_
  refine va_newa (atype := .int) (ty := .int) (a0 := (24, .inl (fun _ => 0))) hx hb (hts _ (List.mem_cons_of_mem _ mGB_37)) rfl hK hP hD hS hA (fun _ => rfl) (by decide) (by decide) (Nat.le_of_ble_eq_true rfl) (Nat.le_of_ble_eq_true rfl) (Nat.le_of_ble_eq_true rfl) dX12_init_167 (fun q_39 k_40 H hK hP hD hS => ?_)
  have hP : va_P (dC, dI) vwCl [(h0, .inr (12, [.int 0, .int 0, .int 0, .int 0, .int 0, .int 0, .int 0, .int 0, .ref q_1, .ref q_3, .int 0, .ref q_5, .ref q_7, .ref q_9, .ref q_11, .ref q_13, .ref q_15, .int 0, .ref q_17, .ref q_19, .ref q_21, .ref q_23, .ref q_25, .int 0, .int 0, .ref q_27, .int 0, .int 0, .int (-1), .int 0, .int 0, .int 0, .int 0, .int 0, .ref q_29, .ref q_31, .ref q_33, .int 0, .ref q_35, .ref q_37, .null, .int 0, .int 0, .int 0, .int 0, .int 0, .null, .int 0, .int 0, .int 0, .int 0, .int 0, .null, .null, .int 0, .null, .int 0])), (q_1, .inl (k_2, 6, .inl (fun _ => 0))), (q_3, .inl (k_4, 36, .inl (fun _ => 0))), (q_5, .inl (k_6, 24, .inl (fun _ => 0))), (q_7, .inl (k_8, 24, .inl (fun _ => 0))), (q_9, .inl (k_10, 24, .inl (fun _ => 0))), (q_11, .inl (k_12, 24, .inl (fun _ => 0))), (q_13, .inl (k_14, 24, .inl (fun _ => 0))), (q_15, .inl (k_16, 24, .inl (fun _ => 0))), (q_17, .inl (k_18, 8, .inl (fun _ => 0))), (q_19, .inl (k_20, 8, .inl (fun _ => 0))), (q_21, .inl (k_22, 8, .inl (fun _ => 0))), (q_23, .inl (k_24, 8, .inl (fun _ => 0))), (q_25, .inl (k_26, 300, .inl (fun _ => 0))), (q_27, .inl (k_28, 1600, .inl (fun _ => 0))), (q_29, .inl (k_30, 25, .inl (fun _ => 0))), (q_31, .inl (k_32, 25, .inl (fun _ => 0))), (q_33, .inl (k_34, 25, .inl (fun _ => 0))), (q_35, .inl (k_36, 6875, .inl (fun _ => 0))), (q_37, .inl (k_38, 24, .inl (fun _ => 0))), (q_39, .inl (k_40, 24, .inl (fun _ => 0)))] H := hP
  have hD : va_D A [(h0, .inr (12, [.int 0, .int 0, .int 0, .int 0, .int 0, .int 0, .int 0, .int 0, .ref q_1, .ref q_3, .int 0, .ref q_5, .ref q_7, .ref q_9, .ref q_11, .ref q_13, .ref q_15, .int 0, .ref q_17, .ref q_19, .ref q_21, .ref q_23, .ref q_25, .int 0, .int 0, .ref q_27, .int 0, .int 0, .int (-1), .int 0, .int 0, .int 0, .int 0, .int 0, .ref q_29, .ref q_31, .ref q_33, .int 0, .ref q_35, .ref q_37, .null, .int 0, .int 0, .int 0, .int 0, .int 0, .null, .int 0, .int 0, .int 0, .int 0, .int 0, .null, .null, .int 0, .null, .int 0])), (q_1, .inl (k_2, 6, .inl (fun _ => 0))), (q_3, .inl (k_4, 36, .inl (fun _ => 0))), (q_5, .inl (k_6, 24, .inl (fun _ => 0))), (q_7, .inl (k_8, 24, .inl (fun _ => 0))), (q_9, .inl (k_10, 24, .inl (fun _ => 0))), (q_11, .inl (k_12, 24, .inl (fun _ => 0))), (q_13, .inl (k_14, 24, .inl (fun _ => 0))), (q_15, .inl (k_16, 24, .inl (fun _ => 0))), (q_17, .inl (k_18, 8, .inl (fun _ => 0))), (q_19, .inl (k_20, 8, .inl (fun _ => 0))), (q_21, .inl (k_22, 8, .inl (fun _ => 0))), (q_23, .inl (k_24, 8, .inl (fun _ => 0))), (q_25, .inl (k_26, 300, .inl (fun _ => 0))), (q_27, .inl (k_28, 1600, .inl (fun _ => 0))), (q_29, .inl (k_30, 25, .inl (fun _ => 0))), (q_31, .inl (k_32, 25, .inl (fun _ => 0))), (q_33, .inl (k_34, 25, .inl (fun _ => 0))), (q_35, .inl (k_36, 6875, .inl (fun _ => 0))), (q_37, .inl (k_38, 24, .inl (fun _ => 0))), (q_39, .inl (k_40, 24, .inl (fun _ => 0)))] := hD
  have hK : va_K (dC, dI) vwCl [(k_2, .int), (k_4, .int), (k_6, .int), (k_8, .int), (k_10, .boolean), (k_12, .int), (k_14, .int), (k_16, .int), (k_18, .int), (k_20, .int), (k_22, .int), (k_24, .int), (k_26, .int), (k_28, .int), (k_30, .int), (k_32, .int), (k_34, .int), (k_36, .int), (k_38, .int), (k_40, .int)] s := hK
  refine W.widen (k := 20) (n := 9116) (Nat.le_of_ble_eq_true rfl) (Nat.le_of_ble_eq_true rfl) ?_
  refine va_putF (D := (dC, dI)) (ci := 12) (v := .ref q_39) (ty := .array .int) (C := RX12) (T := TX12) (N := 57) hx hb hts (fun w h => List.mem_cons_of_mem _ (jnGB_X12 w h)) tyX12 tyX12_ok nmX12 hown hK hP hD hS 0 rfl rfl 40 (by decide) (hts _ (List.mem_cons_of_mem _ mGB_58)) (fun _ h9 => h9) rfl hin rfl (by decide +kernel) rfl rfl (Nat.le_of_ble_eq_true rfl) dX12_init_169 (fun H locs hP hD hS => ?_)
  have hP : va_P (dC, dI) vwCl [(h0, .inr (12, [.int 0, .int 0, .int 0, .int 0, .int 0, .int 0, .int 0, .int 0, .ref q_1, .ref q_3, .int 0, .ref q_5, .ref q_7, .ref q_9, .ref q_11, .ref q_13, .ref q_15, .int 0, .ref q_17, .ref q_19, .ref q_21, .ref q_23, .ref q_25, .int 0, .int 0, .ref q_27, .int 0, .int 0, .int (-1), .int 0, .int 0, .int 0, .int 0, .int 0, .ref q_29, .ref q_31, .ref q_33, .int 0, .ref q_35, .ref q_37, .ref q_39, .int 0, .int 0, .int 0, .int 0, .int 0, .null, .int 0, .int 0, .int 0, .int 0, .int 0, .null, .null, .int 0, .null, .int 0])), (q_1, .inl (k_2, 6, .inl (fun _ => 0))), (q_3, .inl (k_4, 36, .inl (fun _ => 0))), (q_5, .inl (k_6, 24, .inl (fun _ => 0))), (q_7, .inl (k_8, 24, .inl (fun _ => 0))), (q_9, .inl (k_10, 24, .inl (fun _ => 0))), (q_11, .inl (k_12, 24, .inl (fun _ => 0))), (q_13, .inl (k_14, 24, .inl (fun _ => 0))), (q_15, .inl (k_16, 24, .inl (fun _ => 0))), (q_17, .inl (k_18, 8, .inl (fun _ => 0))), (q_19, .inl (k_20, 8, .inl (fun _ => 0))), (q_21, .inl (k_22, 8, .inl (fun _ => 0))), (q_23, .inl (k_24, 8, .inl (fun _ => 0))), (q_25, .inl (k_26, 300, .inl (fun _ => 0))), (q_27, .inl (k_28, 1600, .inl (fun _ => 0))), (q_29, .inl (k_30, 25, .inl (fun _ => 0))), (q_31, .inl (k_32, 25, .inl (fun _ => 0))), (q_33, .inl (k_34, 25, .inl (fun _ => 0))), (q_35, .inl (k_36, 6875, .inl (fun _ => 0))), (q_37, .inl (k_38, 24, .inl (fun _ => 0))), (q_39, .inl (k_40, 24, .inl (fun _ => 0)))] H := hP
  have hD : va_D A [(h0, .inr (12, [.int 0, .int 0, .int 0, .int 0, .int 0, .int 0, .int 0, .int 0, .ref q_1, .ref q_3, .int 0, .ref q_5, .ref q_7, .ref q_9, .ref q_11, .ref q_13, .ref q_15, .int 0, .ref q_17, .ref q_19, .ref q_21, .ref q_23, .ref q_25, .int 0, .int 0, .ref q_27, .int 0, .int 0, .int (-1), .int 0, .int 0, .int 0, .int 0, .int 0, .ref q_29, .ref q_31, .ref q_33, .int 0, .ref q_35, .ref q_37, .ref q_39, .int 0, .int 0, .int 0, .int 0, .int 0, .null, .int 0, .int 0, .int 0, .int 0, .int 0, .null, .null, .int 0, .null, .int 0])), (q_1, .inl (k_2, 6, .inl (fun _ => 0))), (q_3, .inl (k_4, 36, .inl (fun _ => 0))), (q_5, .inl (k_6, 24, .inl (fun _ => 0))), (q_7, .inl (k_8, 24, .inl (fun _ => 0))), (q_9, .inl (k_10, 24, .inl (fun _ => 0))), (q_11, .inl (k_12, 24, .inl (fun _ => 0))), (q_13, .inl (k_14, 24, .inl (fun _ => 0))), (q_15, .inl (k_16, 24, .inl (fun _ => 0))), (q_17, .inl (k_18, 8, .inl (fun _ => 0))), (q_19, .inl (k_20, 8, .inl (fun _ => 0))), (q_21, .inl (k_22, 8, .inl (fun _ => 0))), (q_23, .inl (k_24, 8, .inl (fun _ => 0))), (q_25, .inl (k_26, 300, .inl (fun _ => 0))), (q_27, .inl (k_28, 1600, .inl (fun _ => 0))), (q_29, .inl (k_30, 25, .inl (fun _ => 0))), (q_31, .inl (k_32, 25, .inl (fun _ => 0))), (q_33, .inl (k_34, 25, .inl (fun _ => 0))), (q_35, .inl (k_36, 6875, .inl (fun _ => 0))), (q_37, .inl (k_38, 24, .inl (fun _ => 0))), (q_39, .inl (k_40, 24, .inl (fun _ => 0)))] := hD
  refine lv_aload_n hx hb dX12_init_172 rfl (lv_at hl 0 rfl) ?_
  refine lv_iconst (v := (-1)) hx hb dX12_init_173 (by decide) ?_
  refine va_put (D := (dC, dI)) (ci := 12) (v := .int (-1)) (ty := .int) (C := RX12) (T := TX12) (N := 57) hx hb hts (fun w h => List.mem_cons_of_mem _ (jnGB_X12 w h)) tyX12 tyX12_ok nmX12 hown hK hP hD hS 0 rfl rfl 42 (by decide) (hts _ (List.mem_cons_of_mem _ mGB_59)) (fun _ h9 => h9) rfl (by decide +kernel) rfl rfl (Nat.le_of_ble_eq_true rfl) dX12_init_174 (fun H locs hP hD hS => ?_)
  have hP : va_P (dC, dI) vwCl [(h0, .inr (12, [.int 0, .int 0, .int 0, .int 0, .int 0, .int 0, .int 0, .int 0, .ref q_1, .ref q_3, .int 0, .ref q_5, .ref q_7, .ref q_9, .ref q_11, .ref q_13, .ref q_15, .int 0, .ref q_17, .ref q_19, .ref q_21, .ref q_23, .ref q_25, .int 0, .int 0, .ref q_27, .int 0, .int 0, .int (-1), .int 0, .int 0, .int 0, .int 0, .int 0, .ref q_29, .ref q_31, .ref q_33, .int 0, .ref q_35, .ref q_37, .ref q_39, .int 0, .int (-1), .int 0, .int 0, .int 0, .null, .int 0, .int 0, .int 0, .int 0, .int 0, .null, .null, .int 0, .null, .int 0])), (q_1, .inl (k_2, 6, .inl (fun _ => 0))), (q_3, .inl (k_4, 36, .inl (fun _ => 0))), (q_5, .inl (k_6, 24, .inl (fun _ => 0))), (q_7, .inl (k_8, 24, .inl (fun _ => 0))), (q_9, .inl (k_10, 24, .inl (fun _ => 0))), (q_11, .inl (k_12, 24, .inl (fun _ => 0))), (q_13, .inl (k_14, 24, .inl (fun _ => 0))), (q_15, .inl (k_16, 24, .inl (fun _ => 0))), (q_17, .inl (k_18, 8, .inl (fun _ => 0))), (q_19, .inl (k_20, 8, .inl (fun _ => 0))), (q_21, .inl (k_22, 8, .inl (fun _ => 0))), (q_23, .inl (k_24, 8, .inl (fun _ => 0))), (q_25, .inl (k_26, 300, .inl (fun _ => 0))), (q_27, .inl (k_28, 1600, .inl (fun _ => 0))), (q_29, .inl (k_30, 25, .inl (fun _ => 0))), (q_31, .inl (k_32, 25, .inl (fun _ => 0))), (q_33, .inl (k_34, 25, .inl (fun _ => 0))), (q_35, .inl (k_36, 6875, .inl (fun _ => 0))), (q_37, .inl (k_38, 24, .inl (fun _ => 0))), (q_39, .inl (k_40, 24, .inl (fun _ => 0)))] H := hP
  have hD : va_D A [(h0, .inr (12, [.int 0, .int 0, .int 0, .int 0, .int 0, .int 0, .int 0, .int 0, .ref q_1, .ref q_3, .int 0, .ref q_5, .ref q_7, .ref q_9, .ref q_11, .ref q_13, .ref q_15, .int 0, .ref q_17, .ref q_19, .ref q_21, .ref q_23, .ref q_25, .int 0, .int 0, .ref q_27, .int 0, .int 0, .int (-1), .int 0, .int 0, .int 0, .int 0, .int 0, .ref q_29, .ref q_31, .ref q_33, .int 0, .ref q_35, .ref q_37, .ref q_39, .int 0, .int (-1), .int 0, .int 0, .int 0, .null, .int 0, .int 0, .int 0, .int 0, .int 0, .null, .null, .int 0, .null, .int 0])), (q_1, .inl (k_2, 6, .inl (fun _ => 0))), (q_3, .inl (k_4, 36, .inl (fun _ => 0))), (q_5, .inl (k_6, 24, .inl (fun _ => 0))), (q_7, .inl (k_8, 24, .inl (fun _ => 0))), (q_9, .inl (k_10, 24, .inl (fun _ => 0))), (q_11, .inl (k_12, 24, .inl (fun _ => 0))), (q_13, .inl (k_14, 24, .inl (fun _ => 0))), (q_15, .inl (k_16, 24, .inl (fun _ => 0))), (q_17, .inl (k_18, 8, .inl (fun _ => 0))), (q_19, .inl (k_20, 8, .inl (fun _ => 0))), (q_21, .inl (k_22, 8, .inl (fun _ => 0))), (q_23, .inl (k_24, 8, .inl (fun _ => 0))), (q_25, .inl (k_26, 300, .inl (fun _ => 0))), (q_27, .inl (k_28, 1600, .inl (fun _ => 0))), (q_29, .inl (k_30, 25, .inl (fun _ => 0))), (q_31, .inl (k_32, 25, .inl (fun _ => 0))), (q_33, .inl (k_34, 25, .inl (fun _ => 0))), (q_35, .inl (k_36, 6875, .inl (fun _ => 0))), (q_37, .inl (k_38, 24, .inl (fun _ => 0))), (q_39, .inl (k_40, 24, .inl (fun _ => 0)))] := hD
  refine lv_aload_n hx hb dX12_init_177 rfl (lv_at hl 0 rfl) ?_
  refine lv_iconst (v := (-1)) hx hb dX12_init_178 (by decide) ?_
  refine va_put (D := (dC, dI)) (ci := 12) (v := .int (-1)) (ty := .int) (C := RX12) (T := TX12) (N := 57) hx hb hts (fun w h => List.mem_cons_of_mem _ (jnGB_X12 w h)) tyX12 tyX12_ok nmX12 hown hK hP hD hS 0 rfl rfl 43 (by decide) (hts _ (List.mem_cons_of_mem _ mGB_60)) (fun _ h9 => h9) rfl (by decide +kernel) rfl rfl (Nat.le_of_ble_eq_true rfl) dX12_init_179 (fun H locs hP hD hS => ?_)
  have hP : va_P (dC, dI) vwCl [(h0, .inr (12, [.int 0, .int 0, .int 0, .int 0, .int 0, .int 0, .int 0, .int 0, .ref q_1, .ref q_3, .int 0, .ref q_5, .ref q_7, .ref q_9, .ref q_11, .ref q_13, .ref q_15, .int 0, .ref q_17, .ref q_19, .ref q_21, .ref q_23, .ref q_25, .int 0, .int 0, .ref q_27, .int 0, .int 0, .int (-1), .int 0, .int 0, .int 0, .int 0, .int 0, .ref q_29, .ref q_31, .ref q_33, .int 0, .ref q_35, .ref q_37, .ref q_39, .int 0, .int (-1), .int (-1), .int 0, .int 0, .null, .int 0, .int 0, .int 0, .int 0, .int 0, .null, .null, .int 0, .null, .int 0])), (q_1, .inl (k_2, 6, .inl (fun _ => 0))), (q_3, .inl (k_4, 36, .inl (fun _ => 0))), (q_5, .inl (k_6, 24, .inl (fun _ => 0))), (q_7, .inl (k_8, 24, .inl (fun _ => 0))), (q_9, .inl (k_10, 24, .inl (fun _ => 0))), (q_11, .inl (k_12, 24, .inl (fun _ => 0))), (q_13, .inl (k_14, 24, .inl (fun _ => 0))), (q_15, .inl (k_16, 24, .inl (fun _ => 0))), (q_17, .inl (k_18, 8, .inl (fun _ => 0))), (q_19, .inl (k_20, 8, .inl (fun _ => 0))), (q_21, .inl (k_22, 8, .inl (fun _ => 0))), (q_23, .inl (k_24, 8, .inl (fun _ => 0))), (q_25, .inl (k_26, 300, .inl (fun _ => 0))), (q_27, .inl (k_28, 1600, .inl (fun _ => 0))), (q_29, .inl (k_30, 25, .inl (fun _ => 0))), (q_31, .inl (k_32, 25, .inl (fun _ => 0))), (q_33, .inl (k_34, 25, .inl (fun _ => 0))), (q_35, .inl (k_36, 6875, .inl (fun _ => 0))), (q_37, .inl (k_38, 24, .inl (fun _ => 0))), (q_39, .inl (k_40, 24, .inl (fun _ => 0)))] H := hP
  have hD : va_D A [(h0, .inr (12, [.int 0, .int 0, .int 0, .int 0, .int 0, .int 0, .int 0, .int 0, .ref q_1, .ref q_3, .int 0, .ref q_5, .ref q_7, .ref q_9, .ref q_11, .ref q_13, .ref q_15, .int 0, .ref q_17, .ref q_19, .ref q_21, .ref q_23, .ref q_25, .int 0, .int 0, .ref q_27, .int 0, .int 0, .int (-1), .int 0, .int 0, .int 0, .int 0, .int 0, .ref q_29, .ref q_31, .ref q_33, .int 0, .ref q_35, .ref q_37, .ref q_39, .int 0, .int (-1), .int (-1), .int 0, .int 0, .null, .int 0, .int 0, .int 0, .int 0, .int 0, .null, .null, .int 0, .null, .int 0])), (q_1, .inl (k_2, 6, .inl (fun _ => 0))), (q_3, .inl (k_4, 36, .inl (fun _ => 0))), (q_5, .inl (k_6, 24, .inl (fun _ => 0))), (q_7, .inl (k_8, 24, .inl (fun _ => 0))), (q_9, .inl (k_10, 24, .inl (fun _ => 0))), (q_11, .inl (k_12, 24, .inl (fun _ => 0))), (q_13, .inl (k_14, 24, .inl (fun _ => 0))), (q_15, .inl (k_16, 24, .inl (fun _ => 0))), (q_17, .inl (k_18, 8, .inl (fun _ => 0))), (q_19, .inl (k_20, 8, .inl (fun _ => 0))), (q_21, .inl (k_22, 8, .inl (fun _ => 0))), (q_23, .inl (k_24, 8, .inl (fun _ => 0))), (q_25, .inl (k_26, 300, .inl (fun _ => 0))), (q_27, .inl (k_28, 1600, .inl (fun _ => 0))), (q_29, .inl (k_30, 25, .inl (fun _ => 0))), (q_31, .inl (k_32, 25, .inl (fun _ => 0))), (q_33, .inl (k_34, 25, .inl (fun _ => 0))), (q_35, .inl (k_36, 6875, .inl (fun _ => 0))), (q_37, .inl (k_38, 24, .inl (fun _ => 0))), (q_39, .inl (k_40, 24, .inl (fun _ => 0)))] := hD
  refine lv_aload_n hx hb dX12_init_182 rfl (lv_at hl 0 rfl) ?_
  refine lv_iconst (v := (-1)) hx hb dX12_init_183 (by decide) ?_
  refine va_put (D := (dC, dI)) (ci := 12) (v := .int (-1)) (ty := .int) (C := RX12) (T := TX12) (N := 57) hx hb hts (fun w h => List.mem_cons_of_mem _ (jnGB_X12 w h)) tyX12 tyX12_ok nmX12 hown hK hP hD hS 0 rfl rfl 44 (by decide) (hts _ (List.mem_cons_of_mem _ mGB_61)) (fun _ h9 => h9) rfl (by decide +kernel) rfl rfl (Nat.le_of_ble_eq_true rfl) dX12_init_184 (fun H locs hP hD hS => ?_)
  have hP : va_P (dC, dI) vwCl [(h0, .inr (12, [.int 0, .int 0, .int 0, .int 0, .int 0, .int 0, .int 0, .int 0, .ref q_1, .ref q_3, .int 0, .ref q_5, .ref q_7, .ref q_9, .ref q_11, .ref q_13, .ref q_15, .int 0, .ref q_17, .ref q_19, .ref q_21, .ref q_23, .ref q_25, .int 0, .int 0, .ref q_27, .int 0, .int 0, .int (-1), .int 0, .int 0, .int 0, .int 0, .int 0, .ref q_29, .ref q_31, .ref q_33, .int 0, .ref q_35, .ref q_37, .ref q_39, .int 0, .int (-1), .int (-1), .int (-1), .int 0, .null, .int 0, .int 0, .int 0, .int 0, .int 0, .null, .null, .int 0, .null, .int 0])), (q_1, .inl (k_2, 6, .inl (fun _ => 0))), (q_3, .inl (k_4, 36, .inl (fun _ => 0))), (q_5, .inl (k_6, 24, .inl (fun _ => 0))), (q_7, .inl (k_8, 24, .inl (fun _ => 0))), (q_9, .inl (k_10, 24, .inl (fun _ => 0))), (q_11, .inl (k_12, 24, .inl (fun _ => 0))), (q_13, .inl (k_14, 24, .inl (fun _ => 0))), (q_15, .inl (k_16, 24, .inl (fun _ => 0))), (q_17, .inl (k_18, 8, .inl (fun _ => 0))), (q_19, .inl (k_20, 8, .inl (fun _ => 0))), (q_21, .inl (k_22, 8, .inl (fun _ => 0))), (q_23, .inl (k_24, 8, .inl (fun _ => 0))), (q_25, .inl (k_26, 300, .inl (fun _ => 0))), (q_27, .inl (k_28, 1600, .inl (fun _ => 0))), (q_29, .inl (k_30, 25, .inl (fun _ => 0))), (q_31, .inl (k_32, 25, .inl (fun _ => 0))), (q_33, .inl (k_34, 25, .inl (fun _ => 0))), (q_35, .inl (k_36, 6875, .inl (fun _ => 0))), (q_37, .inl (k_38, 24, .inl (fun _ => 0))), (q_39, .inl (k_40, 24, .inl (fun _ => 0)))] H := hP
  have hD : va_D A [(h0, .inr (12, [.int 0, .int 0, .int 0, .int 0, .int 0, .int 0, .int 0, .int 0, .ref q_1, .ref q_3, .int 0, .ref q_5, .ref q_7, .ref q_9, .ref q_11, .ref q_13, .ref q_15, .int 0, .ref q_17, .ref q_19, .ref q_21, .ref q_23, .ref q_25, .int 0, .int 0, .ref q_27, .int 0, .int 0, .int (-1), .int 0, .int 0, .int 0, .int 0, .int 0, .ref q_29, .ref q_31, .ref q_33, .int 0, .ref q_35, .ref q_37, .ref q_39, .int 0, .int (-1), .int (-1), .int (-1), .int 0, .null, .int 0, .int 0, .int 0, .int 0, .int 0, .null, .null, .int 0, .null, .int 0])), (q_1, .inl (k_2, 6, .inl (fun _ => 0))), (q_3, .inl (k_4, 36, .inl (fun _ => 0))), (q_5, .inl (k_6, 24, .inl (fun _ => 0))), (q_7, .inl (k_8, 24, .inl (fun _ => 0))), (q_9, .inl (k_10, 24, .inl (fun _ => 0))), (q_11, .inl (k_12, 24, .inl (fun _ => 0))), (q_13, .inl (k_14, 24, .inl (fun _ => 0))), (q_15, .inl (k_16, 24, .inl (fun _ => 0))), (q_17, .inl (k_18, 8, .inl (fun _ => 0))), (q_19, .inl (k_20, 8, .inl (fun _ => 0))), (q_21, .inl (k_22, 8, .inl (fun _ => 0))), (q_23, .inl (k_24, 8, .inl (fun _ => 0))), (q_25, .inl (k_26, 300, .inl (fun _ => 0))), (q_27, .inl (k_28, 1600, .inl (fun _ => 0))), (q_29, .inl (k_30, 25, .inl (fun _ => 0))), (q_31, .inl (k_32, 25, .inl (fun _ => 0))), (q_33, .inl (k_34, 25, .inl (fun _ => 0))), (q_35, .inl (k_36, 6875, .inl (fun _ => 0))), (q_37, .inl (k_38, 24, .inl (fun _ => 0))), (q_39, .inl (k_40, 24, .inl (fun _ => 0)))] := hD
  refine lv_aload_n hx hb dX12_init_187 rfl (lv_at hl 0 rfl) ?_
  refine lv_iconst (v := (-1)) hx hb dX12_init_188 (by decide) ?_
  refine va_put (D := (dC, dI)) (ci := 12) (v := .int (-1)) (ty := .int) (C := RX12) (T := TX12) (N := 57) hx hb hts (fun w h => List.mem_cons_of_mem _ (jnGB_X12 w h)) tyX12 tyX12_ok nmX12 hown hK hP hD hS 0 rfl rfl 45 (by decide) (hts _ (List.mem_cons_of_mem _ mGB_62)) (fun _ h9 => h9) rfl (by decide +kernel) rfl rfl (Nat.le_of_ble_eq_true rfl) dX12_init_189 (fun H locs hP hD hS => ?_)
  have hP : va_P (dC, dI) vwCl [(h0, .inr (12, [.int 0, .int 0, .int 0, .int 0, .int 0, .int 0, .int 0, .int 0, .ref q_1, .ref q_3, .int 0, .ref q_5, .ref q_7, .ref q_9, .ref q_11, .ref q_13, .ref q_15, .int 0, .ref q_17, .ref q_19, .ref q_21, .ref q_23, .ref q_25, .int 0, .int 0, .ref q_27, .int 0, .int 0, .int (-1), .int 0, .int 0, .int 0, .int 0, .int 0, .ref q_29, .ref q_31, .ref q_33, .int 0, .ref q_35, .ref q_37, .ref q_39, .int 0, .int (-1), .int (-1), .int (-1), .int (-1), .null, .int 0, .int 0, .int 0, .int 0, .int 0, .null, .null, .int 0, .null, .int 0])), (q_1, .inl (k_2, 6, .inl (fun _ => 0))), (q_3, .inl (k_4, 36, .inl (fun _ => 0))), (q_5, .inl (k_6, 24, .inl (fun _ => 0))), (q_7, .inl (k_8, 24, .inl (fun _ => 0))), (q_9, .inl (k_10, 24, .inl (fun _ => 0))), (q_11, .inl (k_12, 24, .inl (fun _ => 0))), (q_13, .inl (k_14, 24, .inl (fun _ => 0))), (q_15, .inl (k_16, 24, .inl (fun _ => 0))), (q_17, .inl (k_18, 8, .inl (fun _ => 0))), (q_19, .inl (k_20, 8, .inl (fun _ => 0))), (q_21, .inl (k_22, 8, .inl (fun _ => 0))), (q_23, .inl (k_24, 8, .inl (fun _ => 0))), (q_25, .inl (k_26, 300, .inl (fun _ => 0))), (q_27, .inl (k_28, 1600, .inl (fun _ => 0))), (q_29, .inl (k_30, 25, .inl (fun _ => 0))), (q_31, .inl (k_32, 25, .inl (fun _ => 0))), (q_33, .inl (k_34, 25, .inl (fun _ => 0))), (q_35, .inl (k_36, 6875, .inl (fun _ => 0))), (q_37, .inl (k_38, 24, .inl (fun _ => 0))), (q_39, .inl (k_40, 24, .inl (fun _ => 0)))] H := hP
  have hD : va_D A [(h0, .inr (12, [.int 0, .int 0, .int 0, .int 0, .int 0, .int 0, .int 0, .int 0, .ref q_1, .ref q_3, .int 0, .ref q_5, .ref q_7, .ref q_9, .ref q_11, .ref q_13, .ref q_15, .int 0, .ref q_17, .ref q_19, .ref q_21, .ref q_23, .ref q_25, .int 0, .int 0, .ref q_27, .int 0, .int 0, .int (-1), .int 0, .int 0, .int 0, .int 0, .int 0, .ref q_29, .ref q_31, .ref q_33, .int 0, .ref q_35, .ref q_37, .ref q_39, .int 0, .int (-1), .int (-1), .int (-1), .int (-1), .null, .int 0, .int 0, .int 0, .int 0, .int 0, .null, .null, .int 0, .null, .int 0])), (q_1, .inl (k_2, 6, .inl (fun _ => 0))), (q_3, .inl (k_4, 36, .inl (fun _ => 0))), (q_5, .inl (k_6, 24, .inl (fun _ => 0))), (q_7, .inl (k_8, 24, .inl (fun _ => 0))), (q_9, .inl (k_10, 24, .inl (fun _ => 0))), (q_11, .inl (k_12, 24, .inl (fun _ => 0))), (q_13, .inl (k_14, 24, .inl (fun _ => 0))), (q_15, .inl (k_16, 24, .inl (fun _ => 0))), (q_17, .inl (k_18, 8, .inl (fun _ => 0))), (q_19, .inl (k_20, 8, .inl (fun _ => 0))), (q_21, .inl (k_22, 8, .inl (fun _ => 0))), (q_23, .inl (k_24, 8, .inl (fun _ => 0))), (q_25, .inl (k_26, 300, .inl (fun _ => 0))), (q_27, .inl (k_28, 1600, .inl (fun _ => 0))), (q_29, .inl (k_30, 25, .inl (fun _ => 0))), (q_31, .inl (k_32, 25, .inl (fun _ => 0))), (q_33, .inl (k_34, 25, .inl (fun _ => 0))), (q_35, .inl (k_36, 6875, .inl (fun _ => 0))), (q_37, .inl (k_38, 24, .inl (fun _ => 0))), (q_39, .inl (k_40, 24, .inl (fun _ => 0)))] := hD
  refine lv_aload_n hx hb dX12_init_192 rfl (lv_at hl 0 rfl) ?_
  refine lv_bipush (v := 25) hx hb dX12_init_193 (by decide) ?_
  refine va_newa (atype := .int) (ty := .int) (a0 := (25, .inl (fun _ => 0))) hx hb (hts _ (List.mem_cons_of_mem _ mGB_37)) rfl hK hP hD hS hA (fun _ => rfl) (by decide) (by decide) (Nat.le_of_ble_eq_true rfl) (Nat.le_of_ble_eq_true rfl) (Nat.le_of_ble_eq_true rfl) dX12_init_195 (fun q_41 k_42 H hK hP hD hS => ?_)
  have hP : va_P (dC, dI) vwCl [(h0, .inr (12, [.int 0, .int 0, .int 0, .int 0, .int 0, .int 0, .int 0, .int 0, .ref q_1, .ref q_3, .int 0, .ref q_5, .ref q_7, .ref q_9, .ref q_11, .ref q_13, .ref q_15, .int 0, .ref q_17, .ref q_19, .ref q_21, .ref q_23, .ref q_25, .int 0, .int 0, .ref q_27, .int 0, .int 0, .int (-1), .int 0, .int 0, .int 0, .int 0, .int 0, .ref q_29, .ref q_31, .ref q_33, .int 0, .ref q_35, .ref q_37, .ref q_39, .int 0, .int (-1), .int (-1), .int (-1), .int (-1), .null, .int 0, .int 0, .int 0, .int 0, .int 0, .null, .null, .int 0, .null, .int 0])), (q_1, .inl (k_2, 6, .inl (fun _ => 0))), (q_3, .inl (k_4, 36, .inl (fun _ => 0))), (q_5, .inl (k_6, 24, .inl (fun _ => 0))), (q_7, .inl (k_8, 24, .inl (fun _ => 0))), (q_9, .inl (k_10, 24, .inl (fun _ => 0))), (q_11, .inl (k_12, 24, .inl (fun _ => 0))), (q_13, .inl (k_14, 24, .inl (fun _ => 0))), (q_15, .inl (k_16, 24, .inl (fun _ => 0))), (q_17, .inl (k_18, 8, .inl (fun _ => 0))), (q_19, .inl (k_20, 8, .inl (fun _ => 0))), (q_21, .inl (k_22, 8, .inl (fun _ => 0))), (q_23, .inl (k_24, 8, .inl (fun _ => 0))), (q_25, .inl (k_26, 300, .inl (fun _ => 0))), (q_27, .inl (k_28, 1600, .inl (fun _ => 0))), (q_29, .inl (k_30, 25, .inl (fun _ => 0))), (q_31, .inl (k_32, 25, .inl (fun _ => 0))), (q_33, .inl (k_34, 25, .inl (fun _ => 0))), (q_35, .inl (k_36, 6875, .inl (fun _ => 0))), (q_37, .inl (k_38, 24, .inl (fun _ => 0))), (q_39, .inl (k_40, 24, .inl (fun _ => 0))), (q_41, .inl (k_42, 25, .inl (fun _ => 0)))] H := hP
  have hD : va_D A [(h0, .inr (12, [.int 0, .int 0, .int 0, .int 0, .int 0, .int 0, .int 0, .int 0, .ref q_1, .ref q_3, .int 0, .ref q_5, .ref q_7, .ref q_9, .ref q_11, .ref q_13, .ref q_15, .int 0, .ref q_17, .ref q_19, .ref q_21, .ref q_23, .ref q_25, .int 0, .int 0, .ref q_27, .int 0, .int 0, .int (-1), .int 0, .int 0, .int 0, .int 0, .int 0, .ref q_29, .ref q_31, .ref q_33, .int 0, .ref q_35, .ref q_37, .ref q_39, .int 0, .int (-1), .int (-1), .int (-1), .int (-1), .null, .int 0, .int 0, .int 0, .int 0, .int 0, .null, .null, .int 0, .null, .int 0])), (q_1, .inl (k_2, 6, .inl (fun _ => 0))), (q_3, .inl (k_4, 36, .inl (fun _ => 0))), (q_5, .inl (k_6, 24, .inl (fun _ => 0))), (q_7, .inl (k_8, 24, .inl (fun _ => 0))), (q_9, .inl (k_10, 24, .inl (fun _ => 0))), (q_11, .inl (k_12, 24, .inl (fun _ => 0))), (q_13, .inl (k_14, 24, .inl (fun _ => 0))), (q_15, .inl (k_16, 24, .inl (fun _ => 0))), (q_17, .inl (k_18, 8, .inl (fun _ => 0))), (q_19, .inl (k_20, 8, .inl (fun _ => 0))), (q_21, .inl (k_22, 8, .inl (fun _ => 0))), (q_23, .inl (k_24, 8, .inl (fun _ => 0))), (q_25, .inl (k_26, 300, .inl (fun _ => 0))), (q_27, .inl (k_28, 1600, .inl (fun _ => 0))), (q_29, .inl (k_30, 25, .inl (fun _ => 0))), (q_31, .inl (k_32, 25, .inl (fun _ => 0))), (q_33, .inl (k_34, 25, .inl (fun _ => 0))), (q_35, .inl (k_36, 6875, .inl (fun _ => 0))), (q_37, .inl (k_38, 24, .inl (fun _ => 0))), (q_39, .inl (k_40, 24, .inl (fun _ => 0))), (q_41, .inl (k_42, 25, .inl (fun _ => 0)))] := hD
  have hK : va_K (dC, dI) vwCl [(k_2, .int), (k_4, .int), (k_6, .int), (k_8, .int), (k_10, .boolean), (k_12, .int), (k_14, .int), (k_16, .int), (k_18, .int), (k_20, .int), (k_22, .int), (k_24, .int), (k_26, .int), (k_28, .int), (k_30, .int), (k_32, .int), (k_34, .int), (k_36, .int), (k_38, .int), (k_40, .int), (k_42, .int)] s := hK
  refine W.widen (k := 21) (n := 9141) (Nat.le_of_ble_eq_true rfl) (Nat.le_of_ble_eq_true rfl) ?_
  refine va_putF (D := (dC, dI)) (ci := 12) (v := .ref q_41) (ty := .array .int) (C := RX12) (T := TX12) (N := 57) hx hb hts (fun w h => List.mem_cons_of_mem _ (jnGB_X12 w h)) tyX12 tyX12_ok nmX12 hown hK hP hD hS 0 rfl rfl 46 (by decide) (hts _ (List.mem_cons_of_mem _ mGB_63)) (fun _ h9 => h9) rfl hin rfl (by decide +kernel) rfl rfl (Nat.le_of_ble_eq_true rfl) dX12_init_197 (fun H locs hP hD hS => ?_)
  have hP : va_P (dC, dI) vwCl [(h0, .inr (12, [.int 0, .int 0, .int 0, .int 0, .int 0, .int 0, .int 0, .int 0, .ref q_1, .ref q_3, .int 0, .ref q_5, .ref q_7, .ref q_9, .ref q_11, .ref q_13, .ref q_15, .int 0, .ref q_17, .ref q_19, .ref q_21, .ref q_23, .ref q_25, .int 0, .int 0, .ref q_27, .int 0, .int 0, .int (-1), .int 0, .int 0, .int 0, .int 0, .int 0, .ref q_29, .ref q_31, .ref q_33, .int 0, .ref q_35, .ref q_37, .ref q_39, .int 0, .int (-1), .int (-1), .int (-1), .int (-1), .ref q_41, .int 0, .int 0, .int 0, .int 0, .int 0, .null, .null, .int 0, .null, .int 0])), (q_1, .inl (k_2, 6, .inl (fun _ => 0))), (q_3, .inl (k_4, 36, .inl (fun _ => 0))), (q_5, .inl (k_6, 24, .inl (fun _ => 0))), (q_7, .inl (k_8, 24, .inl (fun _ => 0))), (q_9, .inl (k_10, 24, .inl (fun _ => 0))), (q_11, .inl (k_12, 24, .inl (fun _ => 0))), (q_13, .inl (k_14, 24, .inl (fun _ => 0))), (q_15, .inl (k_16, 24, .inl (fun _ => 0))), (q_17, .inl (k_18, 8, .inl (fun _ => 0))), (q_19, .inl (k_20, 8, .inl (fun _ => 0))), (q_21, .inl (k_22, 8, .inl (fun _ => 0))), (q_23, .inl (k_24, 8, .inl (fun _ => 0))), (q_25, .inl (k_26, 300, .inl (fun _ => 0))), (q_27, .inl (k_28, 1600, .inl (fun _ => 0))), (q_29, .inl (k_30, 25, .inl (fun _ => 0))), (q_31, .inl (k_32, 25, .inl (fun _ => 0))), (q_33, .inl (k_34, 25, .inl (fun _ => 0))), (q_35, .inl (k_36, 6875, .inl (fun _ => 0))), (q_37, .inl (k_38, 24, .inl (fun _ => 0))), (q_39, .inl (k_40, 24, .inl (fun _ => 0))), (q_41, .inl (k_42, 25, .inl (fun _ => 0)))] H := hP
  have hD : va_D A [(h0, .inr (12, [.int 0, .int 0, .int 0, .int 0, .int 0, .int 0, .int 0, .int 0, .ref q_1, .ref q_3, .int 0, .ref q_5, .ref q_7, .ref q_9, .ref q_11, .ref q_13, .ref q_15, .int 0, .ref q_17, .ref q_19, .ref q_21, .ref q_23, .ref q_25, .int 0, .int 0, .ref q_27, .int 0, .int 0, .int (-1), .int 0, .int 0, .int 0, .int 0, .int 0, .ref q_29, .ref q_31, .ref q_33, .int 0, .ref q_35, .ref q_37, .ref q_39, .int 0, .int (-1), .int (-1), .int (-1), .int (-1), .ref q_41, .int 0, .int 0, .int 0, .int 0, .int 0, .null, .null, .int 0, .null, .int 0])), (q_1, .inl (k_2, 6, .inl (fun _ => 0))), (q_3, .inl (k_4, 36, .inl (fun _ => 0))), (q_5, .inl (k_6, 24, .inl (fun _ => 0))), (q_7, .inl (k_8, 24, .inl (fun _ => 0))), (q_9, .inl (k_10, 24, .inl (fun _ => 0))), (q_11, .inl (k_12, 24, .inl (fun _ => 0))), (q_13, .inl (k_14, 24, .inl (fun _ => 0))), (q_15, .inl (k_16, 24, .inl (fun _ => 0))), (q_17, .inl (k_18, 8, .inl (fun _ => 0))), (q_19, .inl (k_20, 8, .inl (fun _ => 0))), (q_21, .inl (k_22, 8, .inl (fun _ => 0))), (q_23, .inl (k_24, 8, .inl (fun _ => 0))), (q_25, .inl (k_26, 300, .inl (fun _ => 0))), (q_27, .inl (k_28, 1600, .inl (fun _ => 0))), (q_29, .inl (k_30, 25, .inl (fun _ => 0))), (q_31, .inl (k_32, 25, .inl (fun _ => 0))), (q_33, .inl (k_34, 25, .inl (fun _ => 0))), (q_35, .inl (k_36, 6875, .inl (fun _ => 0))), (q_37, .inl (k_38, 24, .inl (fun _ => 0))), (q_39, .inl (k_40, 24, .inl (fun _ => 0))), (q_41, .inl (k_42, 25, .inl (fun _ => 0)))] := hD
  refine lv_aload_n hx hb dX12_init_200 rfl (lv_at hl 0 rfl) ?_
  refine lv_bipush (v := 25) hx hb dX12_init_201 (by decide) ?_
  refine va_newa (atype := .int) (ty := .int) (a0 := (25, .inl (fun _ => 0))) hx hb (hts _ (List.mem_cons_of_mem _ mGB_37)) rfl hK hP hD hS hA (fun _ => rfl) (by decide) (by decide) (Nat.le_of_ble_eq_true rfl) (Nat.le_of_ble_eq_true rfl) (Nat.le_of_ble_eq_true rfl) dX12_init_203 (fun q_43 k_44 H hK hP hD hS => ?_)
  have hP : va_P (dC, dI) vwCl [(h0, .inr (12, [.int 0, .int 0, .int 0, .int 0, .int 0, .int 0, .int 0, .int 0, .ref q_1, .ref q_3, .int 0, .ref q_5, .ref q_7, .ref q_9, .ref q_11, .ref q_13, .ref q_15, .int 0, .ref q_17, .ref q_19, .ref q_21, .ref q_23, .ref q_25, .int 0, .int 0, .ref q_27, .int 0, .int 0, .int (-1), .int 0, .int 0, .int 0, .int 0, .int 0, .ref q_29, .ref q_31, .ref q_33, .int 0, .ref q_35, .ref q_37, .ref q_39, .int 0, .int (-1), .int (-1), .int (-1), .int (-1), .ref q_41, .int 0, .int 0, .int 0, .int 0, .int 0, .null, .null, .int 0, .null, .int 0])), (q_1, .inl (k_2, 6, .inl (fun _ => 0))), (q_3, .inl (k_4, 36, .inl (fun _ => 0))), (q_5, .inl (k_6, 24, .inl (fun _ => 0))), (q_7, .inl (k_8, 24, .inl (fun _ => 0))), (q_9, .inl (k_10, 24, .inl (fun _ => 0))), (q_11, .inl (k_12, 24, .inl (fun _ => 0))), (q_13, .inl (k_14, 24, .inl (fun _ => 0))), (q_15, .inl (k_16, 24, .inl (fun _ => 0))), (q_17, .inl (k_18, 8, .inl (fun _ => 0))), (q_19, .inl (k_20, 8, .inl (fun _ => 0))), (q_21, .inl (k_22, 8, .inl (fun _ => 0))), (q_23, .inl (k_24, 8, .inl (fun _ => 0))), (q_25, .inl (k_26, 300, .inl (fun _ => 0))), (q_27, .inl (k_28, 1600, .inl (fun _ => 0))), (q_29, .inl (k_30, 25, .inl (fun _ => 0))), (q_31, .inl (k_32, 25, .inl (fun _ => 0))), (q_33, .inl (k_34, 25, .inl (fun _ => 0))), (q_35, .inl (k_36, 6875, .inl (fun _ => 0))), (q_37, .inl (k_38, 24, .inl (fun _ => 0))), (q_39, .inl (k_40, 24, .inl (fun _ => 0))), (q_41, .inl (k_42, 25, .inl (fun _ => 0))), (q_43, .inl (k_44, 25, .inl (fun _ => 0)))] H := hP
  have hD : va_D A [(h0, .inr (12, [.int 0, .int 0, .int 0, .int 0, .int 0, .int 0, .int 0, .int 0, .ref q_1, .ref q_3, .int 0, .ref q_5, .ref q_7, .ref q_9, .ref q_11, .ref q_13, .ref q_15, .int 0, .ref q_17, .ref q_19, .ref q_21, .ref q_23, .ref q_25, .int 0, .int 0, .ref q_27, .int 0, .int 0, .int (-1), .int 0, .int 0, .int 0, .int 0, .int 0, .ref q_29, .ref q_31, .ref q_33, .int 0, .ref q_35, .ref q_37, .ref q_39, .int 0, .int (-1), .int (-1), .int (-1), .int (-1), .ref q_41, .int 0, .int 0, .int 0, .int 0, .int 0, .null, .null, .int 0, .null, .int 0])), (q_1, .inl (k_2, 6, .inl (fun _ => 0))), (q_3, .inl (k_4, 36, .inl (fun _ => 0))), (q_5, .inl (k_6, 24, .inl (fun _ => 0))), (q_7, .inl (k_8, 24, .inl (fun _ => 0))), (q_9, .inl (k_10, 24, .inl (fun _ => 0))), (q_11, .inl (k_12, 24, .inl (fun _ => 0))), (q_13, .inl (k_14, 24, .inl (fun _ => 0))), (q_15, .inl (k_16, 24, .inl (fun _ => 0))), (q_17, .inl (k_18, 8, .inl (fun _ => 0))), (q_19, .inl (k_20, 8, .inl (fun _ => 0))), (q_21, .inl (k_22, 8, .inl (fun _ => 0))), (q_23, .inl (k_24, 8, .inl (fun _ => 0))), (q_25, .inl (k_26, 300, .inl (fun _ => 0))), (q_27, .inl (k_28, 1600, .inl (fun _ => 0))), (q_29, .inl (k_30, 25, .inl (fun _ => 0))), (q_31, .inl (k_32, 25, .inl (fun _ => 0))), (q_33, .inl (k_34, 25, .inl (fun _ => 0))), (q_35, .inl (k_36, 6875, .inl (fun _ => 0))), (q_37, .inl (k_38, 24, .inl (fun _ => 0))), (q_39, .inl (k_40, 24, .inl (fun _ => 0))), (q_41, .inl (k_42, 25, .inl (fun _ => 0))), (q_43, .inl (k_44, 25, .inl (fun _ => 0)))] := hD
  have hK : va_K (dC, dI) vwCl [(k_2, .int), (k_4, .int), (k_6, .int), (k_8, .int), (k_10, .boolean), (k_12, .int), (k_14, .int), (k_16, .int), (k_18, .int), (k_20, .int), (k_22, .int), (k_24, .int), (k_26, .int), (k_28, .int), (k_30, .int), (k_32, .int), (k_34, .int), (k_36, .int), (k_38, .int), (k_40, .int), (k_42, .int), (k_44, .int)] s := hK
  refine W.widen (k := 22) (n := 9166) (Nat.le_of_ble_eq_true rfl) (Nat.le_of_ble_eq_true rfl) ?_
  refine va_putF (D := (dC, dI)) (ci := 12) (v := .ref q_43) (ty := .array .int) (C := RX12) (T := TX12) (N := 57) hx hb hts (fun w h => List.mem_cons_of_mem _ (jnGB_X12 w h)) tyX12 tyX12_ok nmX12 hown hK hP hD hS 0 rfl rfl 52 (by decide) (hts _ (List.mem_cons_of_mem _ mGB_64)) (fun _ h9 => h9) rfl hin rfl (by decide +kernel) rfl rfl (Nat.le_of_ble_eq_true rfl) dX12_init_205 (fun H locs hP hD hS => ?_)
  have hP : va_P (dC, dI) vwCl [(h0, .inr (12, [.int 0, .int 0, .int 0, .int 0, .int 0, .int 0, .int 0, .int 0, .ref q_1, .ref q_3, .int 0, .ref q_5, .ref q_7, .ref q_9, .ref q_11, .ref q_13, .ref q_15, .int 0, .ref q_17, .ref q_19, .ref q_21, .ref q_23, .ref q_25, .int 0, .int 0, .ref q_27, .int 0, .int 0, .int (-1), .int 0, .int 0, .int 0, .int 0, .int 0, .ref q_29, .ref q_31, .ref q_33, .int 0, .ref q_35, .ref q_37, .ref q_39, .int 0, .int (-1), .int (-1), .int (-1), .int (-1), .ref q_41, .int 0, .int 0, .int 0, .int 0, .int 0, .ref q_43, .null, .int 0, .null, .int 0])), (q_1, .inl (k_2, 6, .inl (fun _ => 0))), (q_3, .inl (k_4, 36, .inl (fun _ => 0))), (q_5, .inl (k_6, 24, .inl (fun _ => 0))), (q_7, .inl (k_8, 24, .inl (fun _ => 0))), (q_9, .inl (k_10, 24, .inl (fun _ => 0))), (q_11, .inl (k_12, 24, .inl (fun _ => 0))), (q_13, .inl (k_14, 24, .inl (fun _ => 0))), (q_15, .inl (k_16, 24, .inl (fun _ => 0))), (q_17, .inl (k_18, 8, .inl (fun _ => 0))), (q_19, .inl (k_20, 8, .inl (fun _ => 0))), (q_21, .inl (k_22, 8, .inl (fun _ => 0))), (q_23, .inl (k_24, 8, .inl (fun _ => 0))), (q_25, .inl (k_26, 300, .inl (fun _ => 0))), (q_27, .inl (k_28, 1600, .inl (fun _ => 0))), (q_29, .inl (k_30, 25, .inl (fun _ => 0))), (q_31, .inl (k_32, 25, .inl (fun _ => 0))), (q_33, .inl (k_34, 25, .inl (fun _ => 0))), (q_35, .inl (k_36, 6875, .inl (fun _ => 0))), (q_37, .inl (k_38, 24, .inl (fun _ => 0))), (q_39, .inl (k_40, 24, .inl (fun _ => 0))), (q_41, .inl (k_42, 25, .inl (fun _ => 0))), (q_43, .inl (k_44, 25, .inl (fun _ => 0)))] H := hP
  have hD : va_D A [(h0, .inr (12, [.int 0, .int 0, .int 0, .int 0, .int 0, .int 0, .int 0, .int 0, .ref q_1, .ref q_3, .int 0, .ref q_5, .ref q_7, .ref q_9, .ref q_11, .ref q_13, .ref q_15, .int 0, .ref q_17, .ref q_19, .ref q_21, .ref q_23, .ref q_25, .int 0, .int 0, .ref q_27, .int 0, .int 0, .int (-1), .int 0, .int 0, .int 0, .int 0, .int 0, .ref q_29, .ref q_31, .ref q_33, .int 0, .ref q_35, .ref q_37, .ref q_39, .int 0, .int (-1), .int (-1), .int (-1), .int (-1), .ref q_41, .int 0, .int 0, .int 0, .int 0, .int 0, .ref q_43, .null, .int 0, .null, .int 0])), (q_1, .inl (k_2, 6, .inl (fun _ => 0))), (q_3, .inl (k_4, 36, .inl (fun _ => 0))), (q_5, .inl (k_6, 24, .inl (fun _ => 0))), (q_7, .inl (k_8, 24, .inl (fun _ => 0))), (q_9, .inl (k_10, 24, .inl (fun _ => 0))), (q_11, .inl (k_12, 24, .inl (fun _ => 0))), (q_13, .inl (k_14, 24, .inl (fun _ => 0))), (q_15, .inl (k_16, 24, .inl (fun _ => 0))), (q_17, .inl (k_18, 8, .inl (fun _ => 0))), (q_19, .inl (k_20, 8, .inl (fun _ => 0))), (q_21, .inl (k_22, 8, .inl (fun _ => 0))), (q_23, .inl (k_24, 8, .inl (fun _ => 0))), (q_25, .inl (k_26, 300, .inl (fun _ => 0))), (q_27, .inl (k_28, 1600, .inl (fun _ => 0))), (q_29, .inl (k_30, 25, .inl (fun _ => 0))), (q_31, .inl (k_32, 25, .inl (fun _ => 0))), (q_33, .inl (k_34, 25, .inl (fun _ => 0))), (q_35, .inl (k_36, 6875, .inl (fun _ => 0))), (q_37, .inl (k_38, 24, .inl (fun _ => 0))), (q_39, .inl (k_40, 24, .inl (fun _ => 0))), (q_41, .inl (k_42, 25, .inl (fun _ => 0))), (q_43, .inl (k_44, 25, .inl (fun _ => 0)))] := hD
  refine lv_aload_n hx hb dX12_init_208 rfl (lv_at hl 0 rfl) ?_
  refine lv_sipush (v := 6875) hx hb dX12_init_209 (by decide) ?_
  refine va_newa (atype := .int) (ty := .int) (a0 := (6875, .inl (fun _ => 0))) hx hb (hts _ (List.mem_cons_of_mem _ mGB_37)) rfl hK hP hD hS hA (fun _ => rfl) (by decide) (by decide) (Nat.le_of_ble_eq_true rfl) (Nat.le_of_ble_eq_true rfl) (Nat.le_of_ble_eq_true rfl) dX12_init_212 (fun q_45 k_46 H hK hP hD hS => ?_)
  have hP : va_P (dC, dI) vwCl [(h0, .inr (12, [.int 0, .int 0, .int 0, .int 0, .int 0, .int 0, .int 0, .int 0, .ref q_1, .ref q_3, .int 0, .ref q_5, .ref q_7, .ref q_9, .ref q_11, .ref q_13, .ref q_15, .int 0, .ref q_17, .ref q_19, .ref q_21, .ref q_23, .ref q_25, .int 0, .int 0, .ref q_27, .int 0, .int 0, .int (-1), .int 0, .int 0, .int 0, .int 0, .int 0, .ref q_29, .ref q_31, .ref q_33, .int 0, .ref q_35, .ref q_37, .ref q_39, .int 0, .int (-1), .int (-1), .int (-1), .int (-1), .ref q_41, .int 0, .int 0, .int 0, .int 0, .int 0, .ref q_43, .null, .int 0, .null, .int 0])), (q_1, .inl (k_2, 6, .inl (fun _ => 0))), (q_3, .inl (k_4, 36, .inl (fun _ => 0))), (q_5, .inl (k_6, 24, .inl (fun _ => 0))), (q_7, .inl (k_8, 24, .inl (fun _ => 0))), (q_9, .inl (k_10, 24, .inl (fun _ => 0))), (q_11, .inl (k_12, 24, .inl (fun _ => 0))), (q_13, .inl (k_14, 24, .inl (fun _ => 0))), (q_15, .inl (k_16, 24, .inl (fun _ => 0))), (q_17, .inl (k_18, 8, .inl (fun _ => 0))), (q_19, .inl (k_20, 8, .inl (fun _ => 0))), (q_21, .inl (k_22, 8, .inl (fun _ => 0))), (q_23, .inl (k_24, 8, .inl (fun _ => 0))), (q_25, .inl (k_26, 300, .inl (fun _ => 0))), (q_27, .inl (k_28, 1600, .inl (fun _ => 0))), (q_29, .inl (k_30, 25, .inl (fun _ => 0))), (q_31, .inl (k_32, 25, .inl (fun _ => 0))), (q_33, .inl (k_34, 25, .inl (fun _ => 0))), (q_35, .inl (k_36, 6875, .inl (fun _ => 0))), (q_37, .inl (k_38, 24, .inl (fun _ => 0))), (q_39, .inl (k_40, 24, .inl (fun _ => 0))), (q_41, .inl (k_42, 25, .inl (fun _ => 0))), (q_43, .inl (k_44, 25, .inl (fun _ => 0))), (q_45, .inl (k_46, 6875, .inl (fun _ => 0)))] H := hP
  have hD : va_D A [(h0, .inr (12, [.int 0, .int 0, .int 0, .int 0, .int 0, .int 0, .int 0, .int 0, .ref q_1, .ref q_3, .int 0, .ref q_5, .ref q_7, .ref q_9, .ref q_11, .ref q_13, .ref q_15, .int 0, .ref q_17, .ref q_19, .ref q_21, .ref q_23, .ref q_25, .int 0, .int 0, .ref q_27, .int 0, .int 0, .int (-1), .int 0, .int 0, .int 0, .int 0, .int 0, .ref q_29, .ref q_31, .ref q_33, .int 0, .ref q_35, .ref q_37, .ref q_39, .int 0, .int (-1), .int (-1), .int (-1), .int (-1), .ref q_41, .int 0, .int 0, .int 0, .int 0, .int 0, .ref q_43, .null, .int 0, .null, .int 0])), (q_1, .inl (k_2, 6, .inl (fun _ => 0))), (q_3, .inl (k_4, 36, .inl (fun _ => 0))), (q_5, .inl (k_6, 24, .inl (fun _ => 0))), (q_7, .inl (k_8, 24, .inl (fun _ => 0))), (q_9, .inl (k_10, 24, .inl (fun _ => 0))), (q_11, .inl (k_12, 24, .inl (fun _ => 0))), (q_13, .inl (k_14, 24, .inl (fun _ => 0))), (q_15, .inl (k_16, 24, .inl (fun _ => 0))), (q_17, .inl (k_18, 8, .inl (fun _ => 0))), (q_19, .inl (k_20, 8, .inl (fun _ => 0))), (q_21, .inl (k_22, 8, .inl (fun _ => 0))), (q_23, .inl (k_24, 8, .inl (fun _ => 0))), (q_25, .inl (k_26, 300, .inl (fun _ => 0))), (q_27, .inl (k_28, 1600, .inl (fun _ => 0))), (q_29, .inl (k_30, 25, .inl (fun _ => 0))), (q_31, .inl (k_32, 25, .inl (fun _ => 0))), (q_33, .inl (k_34, 25, .inl (fun _ => 0))), (q_35, .inl (k_36, 6875, .inl (fun _ => 0))), (q_37, .inl (k_38, 24, .inl (fun _ => 0))), (q_39, .inl (k_40, 24, .inl (fun _ => 0))), (q_41, .inl (k_42, 25, .inl (fun _ => 0))), (q_43, .inl (k_44, 25, .inl (fun _ => 0))), (q_45, .inl (k_46, 6875, .inl (fun _ => 0)))] := hD
  have hK : va_K (dC, dI) vwCl [(k_2, .int), (k_4, .int), (k_6, .int), (k_8, .int), (k_10, .boolean), (k_12, .int), (k_14, .int), (k_16, .int), (k_18, .int), (k_20, .int), (k_22, .int), (k_24, .int), (k_26, .int), (k_28, .int), (k_30, .int), (k_32, .int), (k_34, .int), (k_36, .int), (k_38, .int), (k_40, .int), (k_42, .int), (k_44, .int), (k_46, .int)] s := hK
  refine W.widen (k := 23) (n := 16041) (Nat.le_of_ble_eq_true rfl) (Nat.le_of_ble_eq_true rfl) ?_
  refine va_putF (D := (dC, dI)) (ci := 12) (v := .ref q_45) (ty := .array .int) (C := RX12) (T := TX12) (N := 57) hx hb hts (fun w h => List.mem_cons_of_mem _ (jnGB_X12 w h)) tyX12 tyX12_ok nmX12 hown hK hP hD hS 0 rfl rfl 53 (by decide) (hts _ (List.mem_cons_of_mem _ mGB_65)) (fun _ h9 => h9) rfl hin rfl (by decide +kernel) rfl rfl (Nat.le_of_ble_eq_true rfl) dX12_init_214 (fun H locs hP hD hS => ?_)
  have hP : va_P (dC, dI) vwCl [(h0, .inr (12, [.int 0, .int 0, .int 0, .int 0, .int 0, .int 0, .int 0, .int 0, .ref q_1, .ref q_3, .int 0, .ref q_5, .ref q_7, .ref q_9, .ref q_11, .ref q_13, .ref q_15, .int 0, .ref q_17, .ref q_19, .ref q_21, .ref q_23, .ref q_25, .int 0, .int 0, .ref q_27, .int 0, .int 0, .int (-1), .int 0, .int 0, .int 0, .int 0, .int 0, .ref q_29, .ref q_31, .ref q_33, .int 0, .ref q_35, .ref q_37, .ref q_39, .int 0, .int (-1), .int (-1), .int (-1), .int (-1), .ref q_41, .int 0, .int 0, .int 0, .int 0, .int 0, .ref q_43, .ref q_45, .int 0, .null, .int 0])), (q_1, .inl (k_2, 6, .inl (fun _ => 0))), (q_3, .inl (k_4, 36, .inl (fun _ => 0))), (q_5, .inl (k_6, 24, .inl (fun _ => 0))), (q_7, .inl (k_8, 24, .inl (fun _ => 0))), (q_9, .inl (k_10, 24, .inl (fun _ => 0))), (q_11, .inl (k_12, 24, .inl (fun _ => 0))), (q_13, .inl (k_14, 24, .inl (fun _ => 0))), (q_15, .inl (k_16, 24, .inl (fun _ => 0))), (q_17, .inl (k_18, 8, .inl (fun _ => 0))), (q_19, .inl (k_20, 8, .inl (fun _ => 0))), (q_21, .inl (k_22, 8, .inl (fun _ => 0))), (q_23, .inl (k_24, 8, .inl (fun _ => 0))), (q_25, .inl (k_26, 300, .inl (fun _ => 0))), (q_27, .inl (k_28, 1600, .inl (fun _ => 0))), (q_29, .inl (k_30, 25, .inl (fun _ => 0))), (q_31, .inl (k_32, 25, .inl (fun _ => 0))), (q_33, .inl (k_34, 25, .inl (fun _ => 0))), (q_35, .inl (k_36, 6875, .inl (fun _ => 0))), (q_37, .inl (k_38, 24, .inl (fun _ => 0))), (q_39, .inl (k_40, 24, .inl (fun _ => 0))), (q_41, .inl (k_42, 25, .inl (fun _ => 0))), (q_43, .inl (k_44, 25, .inl (fun _ => 0))), (q_45, .inl (k_46, 6875, .inl (fun _ => 0)))] H := hP
  have hD : va_D A [(h0, .inr (12, [.int 0, .int 0, .int 0, .int 0, .int 0, .int 0, .int 0, .int 0, .ref q_1, .ref q_3, .int 0, .ref q_5, .ref q_7, .ref q_9, .ref q_11, .ref q_13, .ref q_15, .int 0, .ref q_17, .ref q_19, .ref q_21, .ref q_23, .ref q_25, .int 0, .int 0, .ref q_27, .int 0, .int 0, .int (-1), .int 0, .int 0, .int 0, .int 0, .int 0, .ref q_29, .ref q_31, .ref q_33, .int 0, .ref q_35, .ref q_37, .ref q_39, .int 0, .int (-1), .int (-1), .int (-1), .int (-1), .ref q_41, .int 0, .int 0, .int 0, .int 0, .int 0, .ref q_43, .ref q_45, .int 0, .null, .int 0])), (q_1, .inl (k_2, 6, .inl (fun _ => 0))), (q_3, .inl (k_4, 36, .inl (fun _ => 0))), (q_5, .inl (k_6, 24, .inl (fun _ => 0))), (q_7, .inl (k_8, 24, .inl (fun _ => 0))), (q_9, .inl (k_10, 24, .inl (fun _ => 0))), (q_11, .inl (k_12, 24, .inl (fun _ => 0))), (q_13, .inl (k_14, 24, .inl (fun _ => 0))), (q_15, .inl (k_16, 24, .inl (fun _ => 0))), (q_17, .inl (k_18, 8, .inl (fun _ => 0))), (q_19, .inl (k_20, 8, .inl (fun _ => 0))), (q_21, .inl (k_22, 8, .inl (fun _ => 0))), (q_23, .inl (k_24, 8, .inl (fun _ => 0))), (q_25, .inl (k_26, 300, .inl (fun _ => 0))), (q_27, .inl (k_28, 1600, .inl (fun _ => 0))), (q_29, .inl (k_30, 25, .inl (fun _ => 0))), (q_31, .inl (k_32, 25, .inl (fun _ => 0))), (q_33, .inl (k_34, 25, .inl (fun _ => 0))), (q_35, .inl (k_36, 6875, .inl (fun _ => 0))), (q_37, .inl (k_38, 24, .inl (fun _ => 0))), (q_39, .inl (k_40, 24, .inl (fun _ => 0))), (q_41, .inl (k_42, 25, .inl (fun _ => 0))), (q_43, .inl (k_44, 25, .inl (fun _ => 0))), (q_45, .inl (k_46, 6875, .inl (fun _ => 0)))] := hD
  refine lv_aload_n hx hb dX12_init_217 rfl (lv_at hl 0 rfl) ?_
  refine lv_bipush (v := 80) hx hb dX12_init_218 (by decide) ?_
  refine va_newa (atype := .int) (ty := .int) (a0 := (80, .inl (fun _ => 0))) hx hb (hts _ (List.mem_cons_of_mem _ mGB_37)) rfl hK hP hD hS hA (fun _ => rfl) (by decide) (by decide) (Nat.le_of_ble_eq_true rfl) (Nat.le_of_ble_eq_true rfl) (Nat.le_of_ble_eq_true rfl) dX12_init_220 (fun q_47 k_48 H hK hP hD hS => ?_)
  have hP : va_P (dC, dI) vwCl [(h0, .inr (12, [.int 0, .int 0, .int 0, .int 0, .int 0, .int 0, .int 0, .int 0, .ref q_1, .ref q_3, .int 0, .ref q_5, .ref q_7, .ref q_9, .ref q_11, .ref q_13, .ref q_15, .int 0, .ref q_17, .ref q_19, .ref q_21, .ref q_23, .ref q_25, .int 0, .int 0, .ref q_27, .int 0, .int 0, .int (-1), .int 0, .int 0, .int 0, .int 0, .int 0, .ref q_29, .ref q_31, .ref q_33, .int 0, .ref q_35, .ref q_37, .ref q_39, .int 0, .int (-1), .int (-1), .int (-1), .int (-1), .ref q_41, .int 0, .int 0, .int 0, .int 0, .int 0, .ref q_43, .ref q_45, .int 0, .null, .int 0])), (q_1, .inl (k_2, 6, .inl (fun _ => 0))), (q_3, .inl (k_4, 36, .inl (fun _ => 0))), (q_5, .inl (k_6, 24, .inl (fun _ => 0))), (q_7, .inl (k_8, 24, .inl (fun _ => 0))), (q_9, .inl (k_10, 24, .inl (fun _ => 0))), (q_11, .inl (k_12, 24, .inl (fun _ => 0))), (q_13, .inl (k_14, 24, .inl (fun _ => 0))), (q_15, .inl (k_16, 24, .inl (fun _ => 0))), (q_17, .inl (k_18, 8, .inl (fun _ => 0))), (q_19, .inl (k_20, 8, .inl (fun _ => 0))), (q_21, .inl (k_22, 8, .inl (fun _ => 0))), (q_23, .inl (k_24, 8, .inl (fun _ => 0))), (q_25, .inl (k_26, 300, .inl (fun _ => 0))), (q_27, .inl (k_28, 1600, .inl (fun _ => 0))), (q_29, .inl (k_30, 25, .inl (fun _ => 0))), (q_31, .inl (k_32, 25, .inl (fun _ => 0))), (q_33, .inl (k_34, 25, .inl (fun _ => 0))), (q_35, .inl (k_36, 6875, .inl (fun _ => 0))), (q_37, .inl (k_38, 24, .inl (fun _ => 0))), (q_39, .inl (k_40, 24, .inl (fun _ => 0))), (q_41, .inl (k_42, 25, .inl (fun _ => 0))), (q_43, .inl (k_44, 25, .inl (fun _ => 0))), (q_45, .inl (k_46, 6875, .inl (fun _ => 0))), (q_47, .inl (k_48, 80, .inl (fun _ => 0)))] H := hP
  have hD : va_D A [(h0, .inr (12, [.int 0, .int 0, .int 0, .int 0, .int 0, .int 0, .int 0, .int 0, .ref q_1, .ref q_3, .int 0, .ref q_5, .ref q_7, .ref q_9, .ref q_11, .ref q_13, .ref q_15, .int 0, .ref q_17, .ref q_19, .ref q_21, .ref q_23, .ref q_25, .int 0, .int 0, .ref q_27, .int 0, .int 0, .int (-1), .int 0, .int 0, .int 0, .int 0, .int 0, .ref q_29, .ref q_31, .ref q_33, .int 0, .ref q_35, .ref q_37, .ref q_39, .int 0, .int (-1), .int (-1), .int (-1), .int (-1), .ref q_41, .int 0, .int 0, .int 0, .int 0, .int 0, .ref q_43, .ref q_45, .int 0, .null, .int 0])), (q_1, .inl (k_2, 6, .inl (fun _ => 0))), (q_3, .inl (k_4, 36, .inl (fun _ => 0))), (q_5, .inl (k_6, 24, .inl (fun _ => 0))), (q_7, .inl (k_8, 24, .inl (fun _ => 0))), (q_9, .inl (k_10, 24, .inl (fun _ => 0))), (q_11, .inl (k_12, 24, .inl (fun _ => 0))), (q_13, .inl (k_14, 24, .inl (fun _ => 0))), (q_15, .inl (k_16, 24, .inl (fun _ => 0))), (q_17, .inl (k_18, 8, .inl (fun _ => 0))), (q_19, .inl (k_20, 8, .inl (fun _ => 0))), (q_21, .inl (k_22, 8, .inl (fun _ => 0))), (q_23, .inl (k_24, 8, .inl (fun _ => 0))), (q_25, .inl (k_26, 300, .inl (fun _ => 0))), (q_27, .inl (k_28, 1600, .inl (fun _ => 0))), (q_29, .inl (k_30, 25, .inl (fun _ => 0))), (q_31, .inl (k_32, 25, .inl (fun _ => 0))), (q_33, .inl (k_34, 25, .inl (fun _ => 0))), (q_35, .inl (k_36, 6875, .inl (fun _ => 0))), (q_37, .inl (k_38, 24, .inl (fun _ => 0))), (q_39, .inl (k_40, 24, .inl (fun _ => 0))), (q_41, .inl (k_42, 25, .inl (fun _ => 0))), (q_43, .inl (k_44, 25, .inl (fun _ => 0))), (q_45, .inl (k_46, 6875, .inl (fun _ => 0))), (q_47, .inl (k_48, 80, .inl (fun _ => 0)))] := hD
  have hK : va_K (dC, dI) vwCl [(k_2, .int), (k_4, .int), (k_6, .int), (k_8, .int), (k_10, .boolean), (k_12, .int), (k_14, .int), (k_16, .int), (k_18, .int), (k_20, .int), (k_22, .int), (k_24, .int), (k_26, .int), (k_28, .int), (k_30, .int), (k_32, .int), (k_34, .int), (k_36, .int), (k_38, .int), (k_40, .int), (k_42, .int), (k_44, .int), (k_46, .int), (k_48, .int)] s := hK
  refine W.widen (k := 24) (n := 16121) (Nat.le_of_ble_eq_true rfl) (Nat.le_of_ble_eq_true rfl) ?_
  refine va_putF (D := (dC, dI)) (ci := 12) (v := .ref q_47) (ty := .array .int) (C := RX12) (T := TX12) (N := 57) hx hb hts (fun w h => List.mem_cons_of_mem _ (jnGB_X12 w h)) tyX12 tyX12_ok nmX12 hown hK hP hD hS 0 rfl rfl 55 (by decide) (hts _ (List.mem_cons_of_mem _ mGB_66)) (fun _ h9 => h9) rfl hin rfl (by decide +kernel) rfl rfl (Nat.le_of_ble_eq_true rfl) dX12_init_222 (fun H locs hP hD hS => ?_)
  have hP : va_P (dC, dI) vwCl [(h0, .inr (12, [.int 0, .int 0, .int 0, .int 0, .int 0, .int 0, .int 0, .int 0, .ref q_1, .ref q_3, .int 0, .ref q_5, .ref q_7, .ref q_9, .ref q_11, .ref q_13, .ref q_15, .int 0, .ref q_17, .ref q_19, .ref q_21, .ref q_23, .ref q_25, .int 0, .int 0, .ref q_27, .int 0, .int 0, .int (-1), .int 0, .int 0, .int 0, .int 0, .int 0, .ref q_29, .ref q_31, .ref q_33, .int 0, .ref q_35, .ref q_37, .ref q_39, .int 0, .int (-1), .int (-1), .int (-1), .int (-1), .ref q_41, .int 0, .int 0, .int 0, .int 0, .int 0, .ref q_43, .ref q_45, .int 0, .ref q_47, .int 0])), (q_1, .inl (k_2, 6, .inl (fun _ => 0))), (q_3, .inl (k_4, 36, .inl (fun _ => 0))), (q_5, .inl (k_6, 24, .inl (fun _ => 0))), (q_7, .inl (k_8, 24, .inl (fun _ => 0))), (q_9, .inl (k_10, 24, .inl (fun _ => 0))), (q_11, .inl (k_12, 24, .inl (fun _ => 0))), (q_13, .inl (k_14, 24, .inl (fun _ => 0))), (q_15, .inl (k_16, 24, .inl (fun _ => 0))), (q_17, .inl (k_18, 8, .inl (fun _ => 0))), (q_19, .inl (k_20, 8, .inl (fun _ => 0))), (q_21, .inl (k_22, 8, .inl (fun _ => 0))), (q_23, .inl (k_24, 8, .inl (fun _ => 0))), (q_25, .inl (k_26, 300, .inl (fun _ => 0))), (q_27, .inl (k_28, 1600, .inl (fun _ => 0))), (q_29, .inl (k_30, 25, .inl (fun _ => 0))), (q_31, .inl (k_32, 25, .inl (fun _ => 0))), (q_33, .inl (k_34, 25, .inl (fun _ => 0))), (q_35, .inl (k_36, 6875, .inl (fun _ => 0))), (q_37, .inl (k_38, 24, .inl (fun _ => 0))), (q_39, .inl (k_40, 24, .inl (fun _ => 0))), (q_41, .inl (k_42, 25, .inl (fun _ => 0))), (q_43, .inl (k_44, 25, .inl (fun _ => 0))), (q_45, .inl (k_46, 6875, .inl (fun _ => 0))), (q_47, .inl (k_48, 80, .inl (fun _ => 0)))] H := hP
  have hD : va_D A [(h0, .inr (12, [.int 0, .int 0, .int 0, .int 0, .int 0, .int 0, .int 0, .int 0, .ref q_1, .ref q_3, .int 0, .ref q_5, .ref q_7, .ref q_9, .ref q_11, .ref q_13, .ref q_15, .int 0, .ref q_17, .ref q_19, .ref q_21, .ref q_23, .ref q_25, .int 0, .int 0, .ref q_27, .int 0, .int 0, .int (-1), .int 0, .int 0, .int 0, .int 0, .int 0, .ref q_29, .ref q_31, .ref q_33, .int 0, .ref q_35, .ref q_37, .ref q_39, .int 0, .int (-1), .int (-1), .int (-1), .int (-1), .ref q_41, .int 0, .int 0, .int 0, .int 0, .int 0, .ref q_43, .ref q_45, .int 0, .ref q_47, .int 0])), (q_1, .inl (k_2, 6, .inl (fun _ => 0))), (q_3, .inl (k_4, 36, .inl (fun _ => 0))), (q_5, .inl (k_6, 24, .inl (fun _ => 0))), (q_7, .inl (k_8, 24, .inl (fun _ => 0))), (q_9, .inl (k_10, 24, .inl (fun _ => 0))), (q_11, .inl (k_12, 24, .inl (fun _ => 0))), (q_13, .inl (k_14, 24, .inl (fun _ => 0))), (q_15, .inl (k_16, 24, .inl (fun _ => 0))), (q_17, .inl (k_18, 8, .inl (fun _ => 0))), (q_19, .inl (k_20, 8, .inl (fun _ => 0))), (q_21, .inl (k_22, 8, .inl (fun _ => 0))), (q_23, .inl (k_24, 8, .inl (fun _ => 0))), (q_25, .inl (k_26, 300, .inl (fun _ => 0))), (q_27, .inl (k_28, 1600, .inl (fun _ => 0))), (q_29, .inl (k_30, 25, .inl (fun _ => 0))), (q_31, .inl (k_32, 25, .inl (fun _ => 0))), (q_33, .inl (k_34, 25, .inl (fun _ => 0))), (q_35, .inl (k_36, 6875, .inl (fun _ => 0))), (q_37, .inl (k_38, 24, .inl (fun _ => 0))), (q_39, .inl (k_40, 24, .inl (fun _ => 0))), (q_41, .inl (k_42, 25, .inl (fun _ => 0))), (q_43, .inl (k_44, 25, .inl (fun _ => 0))), (q_45, .inl (k_46, 6875, .inl (fun _ => 0))), (q_47, .inl (k_48, 80, .inl (fun _ => 0)))] := hD
  have hP9 := hP.sub (ws' := [(h0, .inr (12, [.int 0, .int 0, .int 0, .int 0, .int 0, .int 0, .int 0, .int 0, .ref q_1, .ref q_3, .int 0, .ref q_5, .ref q_7, .ref q_9, .ref q_11, .ref q_13, .ref q_15, .int 0, .ref q_17, .ref q_19, .ref q_21, .ref q_23, .ref q_25, .int 0, .int 0, .ref q_27, .int 0, .int 0, .int (-1), .int 0, .int 0, .int 0, .int 0, .int 0, .ref q_29, .ref q_31, .ref q_33, .int 0, .ref q_35, .ref q_37, .ref q_39, .int 0, .int (-1), .int (-1), .int (-1), .int (-1), .ref q_41, .int 0, .int 0, .int 0, .int 0, .int 0, .ref q_43, .ref q_45, .int 0, .ref q_47, .int 0])), (q_1, .inl (k_2, 6, .inl (fun _ => 0))), (q_3, .inl (k_4, 36, .inl (fun _ => 0))), (q_5, .inl (k_6, 24, .inl (fun _ => 0))), (q_7, .inl (k_8, 24, .inl (fun _ => 0))), (q_11, .inl (k_12, 24, .inl (fun _ => 0))), (q_13, .inl (k_14, 24, .inl (fun _ => 0))), (q_15, .inl (k_16, 24, .inl (fun _ => 0))), (q_17, .inl (k_18, 8, .inl (fun _ => 0))), (q_19, .inl (k_20, 8, .inl (fun _ => 0))), (q_21, .inl (k_22, 8, .inl (fun _ => 0))), (q_23, .inl (k_24, 8, .inl (fun _ => 0))), (q_9, .inl (k_10, 24, .inl (fun _ => 0))), (q_25, .inl (k_26, 300, .inl (fun _ => 0))), (q_27, .inl (k_28, 1600, .inl (fun _ => 0)))]) [0, 1, 2, 3, 4, 6, 7, 8, 9, 10, 11, 12, 5, 13, 14] rfl
  have hD9 := hD.sub (ws' := [(h0, .inr (12, [.int 0, .int 0, .int 0, .int 0, .int 0, .int 0, .int 0, .int 0, .ref q_1, .ref q_3, .int 0, .ref q_5, .ref q_7, .ref q_9, .ref q_11, .ref q_13, .ref q_15, .int 0, .ref q_17, .ref q_19, .ref q_21, .ref q_23, .ref q_25, .int 0, .int 0, .ref q_27, .int 0, .int 0, .int (-1), .int 0, .int 0, .int 0, .int 0, .int 0, .ref q_29, .ref q_31, .ref q_33, .int 0, .ref q_35, .ref q_37, .ref q_39, .int 0, .int (-1), .int (-1), .int (-1), .int (-1), .ref q_41, .int 0, .int 0, .int 0, .int 0, .int 0, .ref q_43, .ref q_45, .int 0, .ref q_47, .int 0])), (q_1, .inl (k_2, 6, .inl (fun _ => 0))), (q_3, .inl (k_4, 36, .inl (fun _ => 0))), (q_5, .inl (k_6, 24, .inl (fun _ => 0))), (q_7, .inl (k_8, 24, .inl (fun _ => 0))), (q_11, .inl (k_12, 24, .inl (fun _ => 0))), (q_13, .inl (k_14, 24, .inl (fun _ => 0))), (q_15, .inl (k_16, 24, .inl (fun _ => 0))), (q_17, .inl (k_18, 8, .inl (fun _ => 0))), (q_19, .inl (k_20, 8, .inl (fun _ => 0))), (q_21, .inl (k_22, 8, .inl (fun _ => 0))), (q_23, .inl (k_24, 8, .inl (fun _ => 0))), (q_9, .inl (k_10, 24, .inl (fun _ => 0))), (q_25, .inl (k_26, 300, .inl (fun _ => 0))), (q_27, .inl (k_28, 1600, .inl (fun _ => 0)))]) [0, 1, 2, 3, 4, 6, 7, 8, 9, 10, 11, 12, 5, 13, 14] (by decide) rfl
  have hK9 := hK.sub (tys' := [(k_2, .int), (k_4, .int), (k_6, .int), (k_8, .int), (k_12, .int), (k_14, .int), (k_16, .int), (k_18, .int), (k_20, .int), (k_22, .int), (k_24, .int), (k_10, .boolean), (k_26, .int), (k_28, .int)]) [0, 1, 2, 3, 5, 6, 7, 8, 9, 10, 11, 4, 12, 13] rfl
  exact W.vret hx hb hr (fun t ht hW => ⟨⟨(), rfl, trivial, (fun n => [q_1, q_3, q_5, q_7, q_9, q_11, q_13, q_15, q_17, q_19, q_21, q_23, q_25, q_27, q_29, q_31, q_33, q_35, q_37, q_39, q_41, q_43, q_45, q_47].getD n 0), (fun n => [k_2, k_4, k_6, k_8, k_10, k_12, k_14, k_16, k_18, k_20, k_22, k_24, k_26, k_28, k_30, k_32, k_34, k_36, k_38, k_40, k_42, k_44, k_46, k_48].getD n k_2), by rw [ht]; exact hP9, va_K.moved hW.alike hK9, hD9⟩, hS.F ht⟩) hS.2.2 dX12_init_225
theorem dX12_end_0 : decode cX12_end 0 = .ok (.iload_n 1, 1) := by decide +kernel
theorem dX12_end_1 : decode cX12_end 1 = .ok (.i2l, 1) := by decide +kernel
theorem dX12_end_2 : decode cX12_end 2 = .ok (.lconst 0, 1) := by decide +kernel
theorem dX12_end_3 : decode cX12_end 3 = .ok (.aload_n 0, 1) := by decide +kernel
theorem dX12_end_4 : decode cX12_end 4 = .ok (.getfield 99, 3) := by decide +kernel
theorem dX12_end_7 : decode cX12_end 7 = .ok (.i2l, 1) := by decide +kernel
theorem dX12_end_8 : decode cX12_end 8 = .ok (.invokestatic 102, 3) := by decide +kernel
theorem dX12_end_11 : decode cX12_end 11 = .ok (.ifCond .ne 5, 3) := by decide +kernel
theorem dX12_end_14 : decode cX12_end 14 = .ok (.iconst (-1), 1) := by decide +kernel
theorem dX12_end_15 : decode cX12_end 15 = .ok (.ireturn, 1) := by decide +kernel
theorem dX12_end_16 : decode cX12_end 16 = .ok (.aload_n 0, 1) := by decide +kernel
theorem dX12_end_17 : decode cX12_end 17 = .ok (.iload_n 1, 1) := by decide +kernel
theorem dX12_end_18 : decode cX12_end 18 = .ok (.putfield 99, 3) := by decide +kernel
theorem dX12_end_21 : decode cX12_end 21 = .ok (.iload_n 1, 1) := by decide +kernel
theorem dX12_end_22 : decode cX12_end 22 = .ok (.ireturn, 1) := by decide +kernel
set_option maxHeartbeats 4000000 in
set_option maxRecDepth 100000 in
theorem fX12_end (l : Launch) (dC : Nat → ClassId) (dI : Nat → Nat → Nat) (sz : Nat) (h0 : Nat) (r : Nat → Nat) (p0 : Int32) : Met l yX12_end (.code yX12_end cX12_end 2 (some .int) :: wsGB) ({ frames := 1, cells := 0, slots := 0, locals := 25 }) (va_Pc [.ref h0, .int p0] (fun U => U.heap.size = sz ∧ va_P (dC, dI) vwCl [(h0, .inr (12, fsM r))] U.heap ∧ va_K (dC, dI) vwCl [] U ∧ va_D (fun _ => True) [(h0, .inr (12, fsM r))])) (va_Qi (fun (r : Int32) (u : Unit) => r = gz_end p0) (fun _ _ => True) (va_A [(h0, .inr (12, fsM r))] sz)) 0 0 (va_A [(h0, .inr (12, fsM r))] sz) := by
  refine Met.ofW (cc := cX12_end) (maxL := 2) (ret := (some .int)) (by decide) rfl ?_
  intro p e s m args below meth c s₁ B hml hv
  obtain ⟨rfl, hsz, hP, hK, hD0⟩ := hv
  have hx := B.exec
  have hb := B.bytes
  have hr := B.returns
  have hts := atoms_spec (ws := (.code yX12_end cX12_end 2 (some .int) :: wsGB)) B.pre
  have hown : s.vm.findClass RX12 = some m.cls := findClass_of_methodNamed B.named
  have hlocks := B.notSynchronized
  subst hsz
  have hD := hD0.self (sz := s.heap.size)
  generalize hAe : va_A [(h0, .inr (12, fsM r))] s.heap.size = A at hD ⊢
  have hA : ∀ q : Nat, s.heap.size ≤ q → A q := fun q h => by rw [← hAe]; exact Or.inr h
  have hS : va_S A s.heap s.heap [] := va_S.rf
  have hl := lv_entry ([.ref h0, .int p0]) (n := 2) (Nat.le_of_ble_eq_true rfl)
  rw [lg_entry_eq]
  generalize (lg_sl ([.ref h0, .int p0]) ++ List.replicate (2 - (lg_sl ([.ref h0, .int p0])).length) Slot.unset).toArray = ls at hl ⊢
  have hl : lv_has ls 2 [(0, .ref h0), (1, .int p0)] := hl
  refine lv_iload_n hx hb dX12_end_0 rfl (lv_at hl 1 rfl) ?_
  refine lv_i2l (v := (p0).toInt64) hx hb dX12_end_1 rfl ?_
  refine lv_lconst (v := 0) hx hb dX12_end_2 (by decide) ?_
  refine lv_aload_n hx hb dX12_end_3 rfl (lv_at hl 0 rfl) ?_
  refine va_get (D := (dC, dI)) (ci := 12) (v := .int 0) (C := RX12) (T := TX12) (N := 57) hx hb hts (fun w h => List.mem_cons_of_mem _ (jnGB_X12 w h)) hown hK hP 0 rfl rfl 26 (by decide) (hts _ (List.mem_cons_of_mem _ mGB_30)) (fun _ h9 => h9) rfl dX12_end_4 ?_
  refine lv_i2l (v := 0) hx hb dX12_end_7 (by decide) ?_
  have hPc := hP.sub (ws' := []) [] rfl
  have hKc := hK.sub (tys' := []) [] rfl
  refine va_calli (va_runS (As := [.long ((p0).toInt64), .long 0, .long 0]) (rest := []) ⟨hx, hb, hml, hown, hts⟩ (fX12_in l dC dI ((p0).toInt64) 0 0) (cwS 3 hts (gz_gS mGB_3 mGB_4 mGB_5 mGB_2 goodGB) rfl rfl rfl (by decide +kernel) ⟨Nat.le_of_ble_eq_true rfl, Nat.le_of_ble_eq_true rfl⟩) ⟨fun a U g mk q => by obtain ⟨q0, qP, qK⟩ := q; exact ⟨q0, qP, va_K.moved (u := U) (U := U.calling g mk a) (Vm.Alike.refl U.vm) qK⟩, fun U hU hW => ⟨rfl, by rw [hU]; exact hPc, va_K.moved hW.alike hKc⟩⟩ rfl rfl hl.1 rfl (lv_room (Nat.le_of_ble_eq_true rfl)) dX12_end_8 ⟨Nat.le_of_ble_eq_true rfl, Nat.le_of_ble_eq_true rfl⟩) hS (fun q _ h => h.elim) (fun q h => h.elim) (fun r_1 u t H1 locs ht hvm hw hB hz1 hk1 hS => ?_)
  have hP := gz_keep hP hk1
  generalize H1 = H at hP hS ⊢
  have hwr_1 := hw
  refine lv_if_ne (tgt := 16) hx hb dX12_end_11 (by decide) (fun c_2 => ?_) (fun c_2 => ?_)
  · refine lv_aload_n hx hb dX12_end_16 rfl (lv_at hl 0 rfl) ?_
    refine lv_iload_n hx hb dX12_end_17 rfl (lv_at hl 1 rfl) ?_
    refine va_put (D := (dC, dI)) (ci := 12) (v := .int p0) (ty := .int) (C := RX12) (T := TX12) (N := 57) hx hb hts (fun w h => List.mem_cons_of_mem _ (jnGB_X12 w h)) tyX12 tyX12_ok nmX12 hown hK hP hD hS 0 rfl rfl 26 (by decide) (hts _ (List.mem_cons_of_mem _ mGB_30)) (fun _ h9 => h9) rfl (by decide +kernel) rfl rfl (Nat.le_of_ble_eq_true rfl) dX12_end_18 (fun H locs hP hD hS => ?_)
    have hP : va_P (dC, dI) vwCl [(h0, .inr (12, [.int 0, .int 0, .int 0, .int 0, .int 0, .int 0, .int 0, .int 0, .ref (r 0), .ref (r 1), .int 0, .ref (r 2), .ref (r 3), .ref (r 4), .ref (r 5), .ref (r 6), .ref (r 7), .int 0, .ref (r 8), .ref (r 9), .ref (r 10), .ref (r 11), .ref (r 12), .int 0, .int 0, .ref (r 13), .int p0, .int 0, .int (-1), .int 0, .int 0, .int 0, .int 0, .int 0, .ref (r 14), .ref (r 15), .ref (r 16), .int 0, .ref (r 17), .ref (r 18), .ref (r 19), .int 0, .int (-1), .int (-1), .int (-1), .int (-1), .ref (r 20), .int 0, .int 0, .int 0, .int 0, .int 0, .ref (r 21), .ref (r 22), .int 0, .ref (r 23), .int 0]))] H := hP
    have hD : va_D A [(h0, .inr (12, [.int 0, .int 0, .int 0, .int 0, .int 0, .int 0, .int 0, .int 0, .ref (r 0), .ref (r 1), .int 0, .ref (r 2), .ref (r 3), .ref (r 4), .ref (r 5), .ref (r 6), .ref (r 7), .int 0, .ref (r 8), .ref (r 9), .ref (r 10), .ref (r 11), .ref (r 12), .int 0, .int 0, .ref (r 13), .int p0, .int 0, .int (-1), .int 0, .int 0, .int 0, .int 0, .int 0, .ref (r 14), .ref (r 15), .ref (r 16), .int 0, .ref (r 17), .ref (r 18), .ref (r 19), .int 0, .int (-1), .int (-1), .int (-1), .int (-1), .ref (r 20), .int 0, .int 0, .int 0, .int 0, .int 0, .ref (r 21), .ref (r 22), .int 0, .ref (r 23), .int 0]))] := hD
    refine lv_iload_n hx hb dX12_end_21 rfl (lv_at hl 1 rfl) ?_
    refine W.widen (k := 0) (n := 0) (Nat.le_of_ble_eq_true rfl) (Nat.le_of_ble_eq_true rfl) ?_
    exact W.iret (v := p0) hx hb hr (fun t ht hW => ⟨⟨p0, (), rfl, (gz_end_in1 hwr_1 c_2), trivial⟩, hS.F ht⟩) hS.2.2 dX12_end_22
  · refine lv_iconst (v := (-1)) hx hb dX12_end_14 (by decide) ?_
    refine W.widen (k := 0) (n := 0) (Nat.le_of_ble_eq_true rfl) (Nat.le_of_ble_eq_true rfl) ?_
    exact W.iret (v := (-1)) hx hb hr (fun t ht hW => ⟨⟨(-1), (), rfl, (gz_end_in0 hwr_1 c_2), trivial⟩, hS.F ht⟩) hS.2.2 dX12_end_15
end
section
theorem dX12_feed_0 : decode cX12_feed 0 = .ok (.aload_n 0, 1) := by decide +kernel
theorem dX12_feed_1 : decode cX12_feed 1 = .ok (.getfield 99, 3) := by decide +kernel
theorem dX12_feed_4 : decode cX12_feed 4 = .ok (.sipush 1580, 3) := by decide +kernel
theorem dX12_feed_7 : decode cX12_feed 7 = .ok (.if_icmp .le 5, 3) := by decide +kernel
theorem dX12_feed_12 : decode cX12_feed 12 = .ok (.iconst 5, 1) := by decide +kernel
theorem dX12_feed_13 : decode cX12_feed 13 = .ok (.newarray .int, 2) := by decide +kernel
theorem dX12_feed_15 : decode cX12_feed 15 = .ok (.dup, 1) := by decide +kernel
theorem dX12_feed_16 : decode cX12_feed 16 = .ok (.iconst 0, 1) := by decide +kernel
theorem dX12_feed_17 : decode cX12_feed 17 = .ok (.iload_n 1, 1) := by decide +kernel
theorem dX12_feed_18 : decode cX12_feed 18 = .ok (.iastore, 1) := by decide +kernel
theorem dX12_feed_19 : decode cX12_feed 19 = .ok (.dup, 1) := by decide +kernel
theorem dX12_feed_20 : decode cX12_feed 20 = .ok (.iconst 1, 1) := by decide +kernel
theorem dX12_feed_21 : decode cX12_feed 21 = .ok (.iload_n 2, 1) := by decide +kernel
theorem dX12_feed_22 : decode cX12_feed 22 = .ok (.iastore, 1) := by decide +kernel
theorem dX12_feed_23 : decode cX12_feed 23 = .ok (.dup, 1) := by decide +kernel
theorem dX12_feed_24 : decode cX12_feed 24 = .ok (.iconst 2, 1) := by decide +kernel
theorem dX12_feed_25 : decode cX12_feed 25 = .ok (.iload_n 3, 1) := by decide +kernel
theorem dX12_feed_26 : decode cX12_feed 26 = .ok (.iastore, 1) := by decide +kernel
theorem dX12_feed_27 : decode cX12_feed 27 = .ok (.dup, 1) := by decide +kernel
theorem dX12_feed_28 : decode cX12_feed 28 = .ok (.iconst 3, 1) := by decide +kernel
theorem dX12_feed_29 : decode cX12_feed 29 = .ok (.iload 4, 2) := by decide +kernel
theorem dX12_feed_31 : decode cX12_feed 31 = .ok (.iastore, 1) := by decide +kernel
theorem dX12_feed_32 : decode cX12_feed 32 = .ok (.dup, 1) := by decide +kernel
theorem dX12_feed_33 : decode cX12_feed 33 = .ok (.iconst 4, 1) := by decide +kernel
theorem dX12_feed_34 : decode cX12_feed 34 = .ok (.iload 5, 2) := by decide +kernel
theorem dX12_feed_36 : decode cX12_feed 36 = .ok (.iastore, 1) := by decide +kernel
theorem dX12_feed_37 : decode cX12_feed 37 = .ok (.astore 6, 2) := by decide +kernel
theorem dX12_feed_39 : decode cX12_feed 39 = .ok (.iconst 0, 1) := by decide +kernel
theorem dX12_feed_40 : decode cX12_feed 40 = .ok (.istore 7, 2) := by decide +kernel
theorem dX12_feed_42 : decode cX12_feed 42 = .ok (.iload 7, 2) := by decide +kernel
theorem dX12_feed_44 : decode cX12_feed 44 = .ok (.bipush 20, 2) := by decide +kernel
theorem dX12_feed_46 : decode cX12_feed 46 = .ok (.if_icmp .ge 43, 3) := by decide +kernel
theorem dX12_feed_49 : decode cX12_feed 49 = .ok (.aload_n 0, 1) := by decide +kernel
theorem dX12_feed_50 : decode cX12_feed 50 = .ok (.getfield 50, 3) := by decide +kernel
theorem dX12_feed_53 : decode cX12_feed 53 = .ok (.aload_n 0, 1) := by decide +kernel
theorem dX12_feed_54 : decode cX12_feed 54 = .ok (.getfield 99, 3) := by decide +kernel
theorem dX12_feed_57 : decode cX12_feed 57 = .ok (.iload 7, 2) := by decide +kernel
theorem dX12_feed_59 : decode cX12_feed 59 = .ok (.iadd, 1) := by decide +kernel
theorem dX12_feed_60 : decode cX12_feed 60 = .ok (.aload 6, 2) := by decide +kernel
theorem dX12_feed_62 : decode cX12_feed 62 = .ok (.iload 7, 2) := by decide +kernel
theorem dX12_feed_64 : decode cX12_feed 64 = .ok (.iconst 4, 1) := by decide +kernel
theorem dX12_feed_65 : decode cX12_feed 65 = .ok (.idiv, 1) := by decide +kernel
theorem dX12_feed_66 : decode cX12_feed 66 = .ok (.iaload, 1) := by decide +kernel
theorem dX12_feed_67 : decode cX12_feed 67 = .ok (.bipush 24, 2) := by decide +kernel
theorem dX12_feed_69 : decode cX12_feed 69 = .ok (.bipush 8, 2) := by decide +kernel
theorem dX12_feed_71 : decode cX12_feed 71 = .ok (.iload 7, 2) := by decide +kernel
theorem dX12_feed_73 : decode cX12_feed 73 = .ok (.iconst 4, 1) := by decide +kernel
theorem dX12_feed_74 : decode cX12_feed 74 = .ok (.irem, 1) := by decide +kernel
theorem dX12_feed_75 : decode cX12_feed 75 = .ok (.imul, 1) := by decide +kernel
theorem dX12_feed_76 : decode cX12_feed 76 = .ok (.isub, 1) := by decide +kernel
theorem dX12_feed_77 : decode cX12_feed 77 = .ok (.iushr, 1) := by decide +kernel
theorem dX12_feed_78 : decode cX12_feed 78 = .ok (.sipush 255, 3) := by decide +kernel
theorem dX12_feed_81 : decode cX12_feed 81 = .ok (.iand, 1) := by decide +kernel
theorem dX12_feed_82 : decode cX12_feed 82 = .ok (.iastore, 1) := by decide +kernel
theorem dX12_feed_83 : decode cX12_feed 83 = .ok (.iinc 7 1, 3) := by decide +kernel
theorem dX12_feed_86 : decode cX12_feed 86 = .ok (.goto (-44), 3) := by decide +kernel
theorem dX12_feed_89 : decode cX12_feed 89 = .ok (.aload_n 0, 1) := by decide +kernel
theorem dX12_feed_90 : decode cX12_feed 90 = .ok (.dup, 1) := by decide +kernel
theorem dX12_feed_91 : decode cX12_feed 91 = .ok (.getfield 99, 3) := by decide +kernel
theorem dX12_feed_94 : decode cX12_feed 94 = .ok (.bipush 20, 2) := by decide +kernel
theorem dX12_feed_96 : decode cX12_feed 96 = .ok (.iadd, 1) := by decide +kernel
theorem dX12_feed_97 : decode cX12_feed 97 = .ok (.putfield 99, 3) := by decide +kernel
theorem dX12_feed_100 : decode cX12_feed 100 = .ok (.aload_n 0, 1) := by decide +kernel
theorem dX12_feed_101 : decode cX12_feed 101 = .ok (.getfield 99, 3) := by decide +kernel
theorem dX12_feed_104 : decode cX12_feed 104 = .ok (.ireturn, 1) := by decide +kernel
set_option maxHeartbeats 4000000 in
set_option maxRecDepth 100000 in
theorem fX12_feed (l : Launch) (dC : Nat → ClassId) (dI : Nat → Nat → Nat) (sz : Nat) (h0 : Nat) (r : Nat → Nat) (kf : Nat → ClassId) (p0 : Int32) (p1 : Int32) (p2 : Int32) (p3 : Int32) (p4 : Int32) : Met l yX12_feed (.code yX12_feed cX12_feed 8 (some .int) :: wsGB) ({ frames := 0, cells := 1, slots := 5, locals := 0 }) (va_Pc [.ref h0, .int p0, .int p1, .int p2, .int p3, .int p4] (fun U => U.heap.size = sz ∧ va_P (dC, dI) vwCl [(h0, .inr (12, fsM r)), ((r 13), .inl ((kf 13), 1600, .inl (fun _ => 0)))] U.heap ∧ va_K (dC, dI) vwCl [((kf 13), .int)] U ∧ va_D (fun _ => True) [(h0, .inr (12, fsM r)), ((r 13), .inl ((kf 13), 1600, .inl (fun _ => 0)))])) (va_Qi (fun (r : Int32) (u : Unit) => r = 20) (fun _ _ => True) (va_A [(h0, .inr (12, fsM r)), ((r 13), .inl ((kf 13), 1600, .inl (fun _ => 0)))] sz)) 1 5 (va_A [(h0, .inr (12, fsM r)), ((r 13), .inl ((kf 13), 1600, .inl (fun _ => 0)))] sz) := by
  refine Met.ofW (cc := cX12_feed) (maxL := 8) (ret := (some .int)) (by decide) rfl ?_
  intro p e s m args below meth c s₁ B hml hv
  obtain ⟨rfl, hsz, hP, hK, hD0⟩ := hv
  have hx := B.exec
  have hb := B.bytes
  have hr := B.returns
  have hts := atoms_spec (ws := (.code yX12_feed cX12_feed 8 (some .int) :: wsGB)) B.pre
  have hown : s.vm.findClass RX12 = some m.cls := findClass_of_methodNamed B.named
  have hlocks := B.notSynchronized
  subst hsz
  have hD := hD0.self (sz := s.heap.size)
  generalize hAe : va_A [(h0, .inr (12, fsM r)), ((r 13), .inl ((kf 13), 1600, .inl (fun _ => 0)))] s.heap.size = A at hD ⊢
  have hA : ∀ q : Nat, s.heap.size ≤ q → A q := fun q h => by rw [← hAe]; exact Or.inr h
  have hS : va_S A s.heap s.heap [] := va_S.rf
  have hl := lv_entry ([.ref h0, .int p0, .int p1, .int p2, .int p3, .int p4]) (n := 8) (Nat.le_of_ble_eq_true rfl)
  rw [lg_entry_eq]
  generalize (lg_sl ([.ref h0, .int p0, .int p1, .int p2, .int p3, .int p4]) ++ List.replicate (8 - (lg_sl ([.ref h0, .int p0, .int p1, .int p2, .int p3, .int p4])).length) Slot.unset).toArray = ls at hl ⊢
  have hl : lv_has ls 8 [(0, .ref h0), (1, .int p0), (2, .int p1), (3, .int p2), (4, .int p3), (5, .int p4)] := hl
  refine lv_aload_n hx hb dX12_feed_0 rfl (lv_at hl 0 rfl) ?_
  refine va_get (D := (dC, dI)) (ci := 12) (v := .int 0) (C := RX12) (T := TX12) (N := 57) hx hb hts (fun w h => List.mem_cons_of_mem _ (jnGB_X12 w h)) hown hK hP 0 rfl rfl 26 (by decide) (hts _ (List.mem_cons_of_mem _ mGB_30)) (fun _ h9 => h9) rfl dX12_feed_1 ?_
  refine lv_sipush (v := 1580) hx hb dX12_feed_4 (by decide) ?_
  refine lv_icmp_le (tgt := 12) hx hb dX12_feed_7 (by decide) (fun c_1 => ?_) (fun c_1 => absurd (by decide) c_1)
  refine lv_iconst (v := 5) hx hb dX12_feed_12 (by decide) ?_
  refine va_newa (atype := .int) (ty := .int) (a0 := (5, .inl (fun _ => 0))) hx hb (hts _ (List.mem_cons_of_mem _ mGB_37)) rfl hK hP hD hS hA (fun _ => rfl) (by decide) (by decide) (Nat.le_of_ble_eq_true rfl) (Nat.le_of_ble_eq_true rfl) (Nat.le_of_ble_eq_true rfl) dX12_feed_13 (fun q_2 k_3 H hK hP hD hS => ?_)
  have hP : va_P (dC, dI) vwCl [(h0, .inr (12, fsM r)), ((r 13), .inl ((kf 13), 1600, .inl (fun _ => 0))), (q_2, .inl (k_3, 5, .inl (fun _ => 0)))] H := hP
  have hD : va_D A [(h0, .inr (12, fsM r)), ((r 13), .inl ((kf 13), 1600, .inl (fun _ => 0))), (q_2, .inl (k_3, 5, .inl (fun _ => 0)))] := hD
  have hK : va_K (dC, dI) vwCl [((kf 13), .int), (k_3, .int)] s := hK
  refine W.widen (k := 1) (n := 5) (Nat.le_of_ble_eq_true rfl) (Nat.le_of_ble_eq_true rfl) ?_
  refine lv_dup hx hb dX12_feed_15 rfl ?_
  refine lv_iconst (v := 0) hx hb dX12_feed_16 (by decide) ?_
  refine lv_iload_n hx hb dX12_feed_17 rfl (lv_at hl 1 rfl) ?_
  refine va_iast hx hb hK hP hD hS 2 1 rfl rfl (by unfold vp_in; decide) dX12_feed_18 (fun H locs hP hD hS => ?_)
  have hP : va_P (dC, dI) vwCl [(h0, .inr (12, fsM r)), ((r 13), .inl ((kf 13), 1600, .inl (fun _ => 0))), (q_2, .inl (k_3, 5, .inl (upd (fun _ => 0) (0 : Int32).toNatClampNeg p0)))] H := hP
  have hD : va_D A [(h0, .inr (12, fsM r)), ((r 13), .inl ((kf 13), 1600, .inl (fun _ => 0))), (q_2, .inl (k_3, 5, .inl (upd (fun _ => 0) (0 : Int32).toNatClampNeg p0)))] := hD
  generalize upd (fun _ => 0) (0 : Int32).toNatClampNeg p0 = f_4 at hP hD
  refine lv_dup hx hb dX12_feed_19 rfl ?_
  refine lv_iconst (v := 1) hx hb dX12_feed_20 (by decide) ?_
  refine lv_iload_n hx hb dX12_feed_21 rfl (lv_at hl 2 rfl) ?_
  refine va_iast hx hb hK hP hD hS 2 1 rfl rfl (by unfold vp_in; decide) dX12_feed_22 (fun H locs hP hD hS => ?_)
  have hP : va_P (dC, dI) vwCl [(h0, .inr (12, fsM r)), ((r 13), .inl ((kf 13), 1600, .inl (fun _ => 0))), (q_2, .inl (k_3, 5, .inl (upd f_4 (1 : Int32).toNatClampNeg p1)))] H := hP
  have hD : va_D A [(h0, .inr (12, fsM r)), ((r 13), .inl ((kf 13), 1600, .inl (fun _ => 0))), (q_2, .inl (k_3, 5, .inl (upd f_4 (1 : Int32).toNatClampNeg p1)))] := hD
  generalize upd f_4 (1 : Int32).toNatClampNeg p1 = f_5 at hP hD
  refine lv_dup hx hb dX12_feed_23 rfl ?_
  refine lv_iconst (v := 2) hx hb dX12_feed_24 (by decide) ?_
  refine lv_iload_n hx hb dX12_feed_25 rfl (lv_at hl 3 rfl) ?_
  refine va_iast hx hb hK hP hD hS 2 1 rfl rfl (by unfold vp_in; decide) dX12_feed_26 (fun H locs hP hD hS => ?_)
  have hP : va_P (dC, dI) vwCl [(h0, .inr (12, fsM r)), ((r 13), .inl ((kf 13), 1600, .inl (fun _ => 0))), (q_2, .inl (k_3, 5, .inl (upd f_5 (2 : Int32).toNatClampNeg p2)))] H := hP
  have hD : va_D A [(h0, .inr (12, fsM r)), ((r 13), .inl ((kf 13), 1600, .inl (fun _ => 0))), (q_2, .inl (k_3, 5, .inl (upd f_5 (2 : Int32).toNatClampNeg p2)))] := hD
  generalize upd f_5 (2 : Int32).toNatClampNeg p2 = f_6 at hP hD
  refine lv_dup hx hb dX12_feed_27 rfl ?_
  refine lv_iconst (v := 3) hx hb dX12_feed_28 (by decide) ?_
  refine lv_iload hx hb dX12_feed_29 (lv_at hl 4 rfl) ?_
  refine va_iast hx hb hK hP hD hS 2 1 rfl rfl (by unfold vp_in; decide) dX12_feed_31 (fun H locs hP hD hS => ?_)
  have hP : va_P (dC, dI) vwCl [(h0, .inr (12, fsM r)), ((r 13), .inl ((kf 13), 1600, .inl (fun _ => 0))), (q_2, .inl (k_3, 5, .inl (upd f_6 (3 : Int32).toNatClampNeg p3)))] H := hP
  have hD : va_D A [(h0, .inr (12, fsM r)), ((r 13), .inl ((kf 13), 1600, .inl (fun _ => 0))), (q_2, .inl (k_3, 5, .inl (upd f_6 (3 : Int32).toNatClampNeg p3)))] := hD
  generalize upd f_6 (3 : Int32).toNatClampNeg p3 = f_7 at hP hD
  refine lv_dup hx hb dX12_feed_32 rfl ?_
  refine lv_iconst (v := 4) hx hb dX12_feed_33 (by decide) ?_
  refine lv_iload hx hb dX12_feed_34 (lv_at hl 5 rfl) ?_
  refine va_iast hx hb hK hP hD hS 2 1 rfl rfl (by unfold vp_in; decide) dX12_feed_36 (fun H locs hP hD hS => ?_)
  have hP : va_P (dC, dI) vwCl [(h0, .inr (12, fsM r)), ((r 13), .inl ((kf 13), 1600, .inl (fun _ => 0))), (q_2, .inl (k_3, 5, .inl (upd f_7 (4 : Int32).toNatClampNeg p4)))] H := hP
  have hD : va_D A [(h0, .inr (12, fsM r)), ((r 13), .inl ((kf 13), 1600, .inl (fun _ => 0))), (q_2, .inl (k_3, 5, .inl (upd f_7 (4 : Int32).toNatClampNeg p4)))] := hD
  generalize upd f_7 (4 : Int32).toNatClampNeg p4 = f_8 at hP hD
  refine lv_astore (lv' := [(6, .ref q_2), (0, .ref h0), (1, .int p0), (2, .int p1), (3, .int p2), (4, .int p3), (5, .int p4)]) hx hb dX12_feed_37 hl (by decide) rfl (fun ls hl => ?_)
  refine lv_iconst (v := 0) hx hb dX12_feed_39 (by decide) ?_
  refine lv_istore (lv' := [(7, .int 0), (6, .ref q_2), (0, .ref h0), (1, .int p0), (2, .int p1), (3, .int p2), (4, .int p3), (5, .int p4)]) hx hb dX12_feed_40 hl (by decide) rfl (fun ls hl => ?_)
  refine lv_iload hx hb dX12_feed_42 (lv_at hl 0 rfl) ?_
  refine lv_bipush (v := 20) hx hb dX12_feed_44 (by decide) ?_
  refine lv_icmp_ge (tgt := 89) hx hb dX12_feed_46 (by decide) (fun c_9 => absurd c_9 (by decide)) (fun c_9 => ?_)
  refine lv_aload_n hx hb dX12_feed_49 rfl (lv_at hl 2 rfl) ?_
  refine va_get (D := (dC, dI)) (ci := 12) (v := .ref (r 13)) (C := RX12) (T := TX12) (N := 57) hx hb hts (fun w h => List.mem_cons_of_mem _ (jnGB_X12 w h)) hown hK hP 0 rfl rfl 25 (by decide) (hts _ (List.mem_cons_of_mem _ mGB_52)) (fun _ h9 => h9) rfl dX12_feed_50 ?_
  refine lv_aload_n hx hb dX12_feed_53 rfl (lv_at hl 2 rfl) ?_
  refine va_get (D := (dC, dI)) (ci := 12) (v := .int 0) (C := RX12) (T := TX12) (N := 57) hx hb hts (fun w h => List.mem_cons_of_mem _ (jnGB_X12 w h)) hown hK hP 0 rfl rfl 26 (by decide) (hts _ (List.mem_cons_of_mem _ mGB_30)) (fun _ h9 => h9) rfl dX12_feed_54 ?_
  refine lv_iload hx hb dX12_feed_57 (lv_at hl 0 rfl) ?_
  refine lv_iadd hx hb dX12_feed_59 ?_
  refine gz_topi (y := 0) (by decide) ?_
  refine lv_aload hx hb dX12_feed_60 (lv_at hl 1 rfl) ?_
  refine lv_iload hx hb dX12_feed_62 (lv_at hl 0 rfl) ?_
  refine lv_iconst (v := 4) hx hb dX12_feed_64 (by decide) ?_
  refine lv_idiv hx hb dX12_feed_65 (by decide) ?_
  refine gz_topi (y := 0) (by decide) ?_
  refine va_iald hx hb hK hP 2 1 rfl rfl (by unfold vp_in; decide) dX12_feed_66 ?_
  refine lv_topi (fun x_10 ex_10 => ?_)
  refine lv_bipush (v := 24) hx hb dX12_feed_67 (by decide) ?_
  refine lv_bipush (v := 8) hx hb dX12_feed_69 (by decide) ?_
  refine lv_iload hx hb dX12_feed_71 (lv_at hl 0 rfl) ?_
  refine lv_iconst (v := 4) hx hb dX12_feed_73 (by decide) ?_
  refine lv_irem hx hb dX12_feed_74 (by decide) ?_
  refine gz_topi (y := 0) (by decide) ?_
  refine lv_imul hx hb dX12_feed_75 ?_
  refine gz_topi (y := 0) (by decide) ?_
  refine lv_isub hx hb dX12_feed_76 ?_
  refine gz_topi (y := 24) (by decide) ?_
  refine lv_iushr hx hb dX12_feed_77 rfl ?_
  refine lv_topi (fun x_11 ex_11 => ?_)
  refine lv_sipush (v := 255) hx hb dX12_feed_78 (by decide) ?_
  refine lv_iand hx hb dX12_feed_81 ?_
  refine lv_topi (fun x_12 ex_12 => ?_)
  refine va_iast hx hb hK hP hD hS 1 0 rfl rfl (by unfold vp_in; decide) dX12_feed_82 (fun H locs hP hD hS => ?_)
  have hP : va_P (dC, dI) vwCl [(h0, .inr (12, fsM r)), ((r 13), .inl ((kf 13), 1600, .inl (upd (fun _ => 0) (0 : Int32).toNatClampNeg x_12))), (q_2, .inl (k_3, 5, .inl f_8))] H := hP
  have hD : va_D A [(h0, .inr (12, fsM r)), ((r 13), .inl ((kf 13), 1600, .inl (upd (fun _ => 0) (0 : Int32).toNatClampNeg x_12))), (q_2, .inl (k_3, 5, .inl f_8))] := hD
  generalize upd (fun _ => 0) (0 : Int32).toNatClampNeg x_12 = f_13 at hP hD
  refine lv_iinc (v := 1) (lv' := [(7, .int 1), (6, .ref q_2), (0, .ref h0), (1, .int p0), (2, .int p1), (3, .int p2), (4, .int p3), (5, .int p4)]) hx hb dX12_feed_83 hl (k := 0) rfl (by decide) (by decide) rfl (fun ls hl => ?_)
  refine lv_goto (tgt := 42) hx hb dX12_feed_86 (by decide) ?_
  refine lv_iload hx hb dX12_feed_42 (lv_at hl 0 rfl) ?_
  refine lv_bipush (v := 20) hx hb dX12_feed_44 (by decide) ?_
  refine lv_icmp_ge (tgt := 89) hx hb dX12_feed_46 (by decide) (fun c_14 => absurd c_14 (by decide)) (fun c_14 => ?_)
  refine lv_aload_n hx hb dX12_feed_49 rfl (lv_at hl 2 rfl) ?_
  refine va_get (D := (dC, dI)) (ci := 12) (v := .ref (r 13)) (C := RX12) (T := TX12) (N := 57) hx hb hts (fun w h => List.mem_cons_of_mem _ (jnGB_X12 w h)) hown hK hP 0 rfl rfl 25 (by decide) (hts _ (List.mem_cons_of_mem _ mGB_52)) (fun _ h9 => h9) rfl dX12_feed_50 ?_
  refine lv_aload_n hx hb dX12_feed_53 rfl (lv_at hl 2 rfl) ?_
  refine va_get (D := (dC, dI)) (ci := 12) (v := .int 0) (C := RX12) (T := TX12) (N := 57) hx hb hts (fun w h => List.mem_cons_of_mem _ (jnGB_X12 w h)) hown hK hP 0 rfl rfl 26 (by decide) (hts _ (List.mem_cons_of_mem _ mGB_30)) (fun _ h9 => h9) rfl dX12_feed_54 ?_
  refine lv_iload hx hb dX12_feed_57 (lv_at hl 0 rfl) ?_
  refine lv_iadd hx hb dX12_feed_59 ?_
  refine gz_topi (y := 1) (by decide) ?_
  refine lv_aload hx hb dX12_feed_60 (lv_at hl 1 rfl) ?_
  refine lv_iload hx hb dX12_feed_62 (lv_at hl 0 rfl) ?_
  refine lv_iconst (v := 4) hx hb dX12_feed_64 (by decide) ?_
  refine lv_idiv hx hb dX12_feed_65 (by decide) ?_
  refine gz_topi (y := 0) (by decide) ?_
  refine va_iald hx hb hK hP 2 1 rfl rfl (by unfold vp_in; decide) dX12_feed_66 ?_
  refine lv_topi (fun x_15 ex_15 => ?_)
  refine lv_bipush (v := 24) hx hb dX12_feed_67 (by decide) ?_
  refine lv_bipush (v := 8) hx hb dX12_feed_69 (by decide) ?_
  refine lv_iload hx hb dX12_feed_71 (lv_at hl 0 rfl) ?_
  refine lv_iconst (v := 4) hx hb dX12_feed_73 (by decide) ?_
  refine lv_irem hx hb dX12_feed_74 (by decide) ?_
  refine gz_topi (y := 1) (by decide) ?_
  refine lv_imul hx hb dX12_feed_75 ?_
  refine gz_topi (y := 8) (by decide) ?_
  refine lv_isub hx hb dX12_feed_76 ?_
  refine gz_topi (y := 16) (by decide) ?_
  refine lv_iushr hx hb dX12_feed_77 rfl ?_
  refine lv_topi (fun x_16 ex_16 => ?_)
  refine lv_sipush (v := 255) hx hb dX12_feed_78 (by decide) ?_
  refine lv_iand hx hb dX12_feed_81 ?_
  refine lv_topi (fun x_17 ex_17 => ?_)
  refine va_iast hx hb hK hP hD hS 1 0 rfl rfl (by unfold vp_in; decide) dX12_feed_82 (fun H locs hP hD hS => ?_)
  have hP : va_P (dC, dI) vwCl [(h0, .inr (12, fsM r)), ((r 13), .inl ((kf 13), 1600, .inl (upd f_13 (1 : Int32).toNatClampNeg x_17))), (q_2, .inl (k_3, 5, .inl f_8))] H := hP
  have hD : va_D A [(h0, .inr (12, fsM r)), ((r 13), .inl ((kf 13), 1600, .inl (upd f_13 (1 : Int32).toNatClampNeg x_17))), (q_2, .inl (k_3, 5, .inl f_8))] := hD
  generalize upd f_13 (1 : Int32).toNatClampNeg x_17 = f_18 at hP hD
  refine lv_iinc (v := 2) (lv' := [(7, .int 2), (6, .ref q_2), (0, .ref h0), (1, .int p0), (2, .int p1), (3, .int p2), (4, .int p3), (5, .int p4)]) hx hb dX12_feed_83 hl (k := 0) rfl (by decide) (by decide) rfl (fun ls hl => ?_)
  refine lv_goto (tgt := 42) hx hb dX12_feed_86 (by decide) ?_
  refine lv_iload hx hb dX12_feed_42 (lv_at hl 0 rfl) ?_
  refine lv_bipush (v := 20) hx hb dX12_feed_44 (by decide) ?_
  refine lv_icmp_ge (tgt := 89) hx hb dX12_feed_46 (by decide) (fun c_19 => absurd c_19 (by decide)) (fun c_19 => ?_)
  refine lv_aload_n hx hb dX12_feed_49 rfl (lv_at hl 2 rfl) ?_
  refine va_get (D := (dC, dI)) (ci := 12) (v := .ref (r 13)) (C := RX12) (T := TX12) (N := 57) hx hb hts (fun w h => List.mem_cons_of_mem _ (jnGB_X12 w h)) hown hK hP 0 rfl rfl 25 (by decide) (hts _ (List.mem_cons_of_mem _ mGB_52)) (fun _ h9 => h9) rfl dX12_feed_50 ?_
  refine lv_aload_n hx hb dX12_feed_53 rfl (lv_at hl 2 rfl) ?_
  refine va_get (D := (dC, dI)) (ci := 12) (v := .int 0) (C := RX12) (T := TX12) (N := 57) hx hb hts (fun w h => List.mem_cons_of_mem _ (jnGB_X12 w h)) hown hK hP 0 rfl rfl 26 (by decide) (hts _ (List.mem_cons_of_mem _ mGB_30)) (fun _ h9 => h9) rfl dX12_feed_54 ?_
  refine lv_iload hx hb dX12_feed_57 (lv_at hl 0 rfl) ?_
  refine lv_iadd hx hb dX12_feed_59 ?_
  refine gz_topi (y := 2) (by decide) ?_
  refine lv_aload hx hb dX12_feed_60 (lv_at hl 1 rfl) ?_
  refine lv_iload hx hb dX12_feed_62 (lv_at hl 0 rfl) ?_
  refine lv_iconst (v := 4) hx hb dX12_feed_64 (by decide) ?_
  refine lv_idiv hx hb dX12_feed_65 (by decide) ?_
  refine gz_topi (y := 0) (by decide) ?_
  refine va_iald hx hb hK hP 2 1 rfl rfl (by unfold vp_in; decide) dX12_feed_66 ?_
  refine lv_topi (fun x_20 ex_20 => ?_)
  refine lv_bipush (v := 24) hx hb dX12_feed_67 (by decide) ?_
  refine lv_bipush (v := 8) hx hb dX12_feed_69 (by decide) ?_
  refine lv_iload hx hb dX12_feed_71 (lv_at hl 0 rfl) ?_
  refine lv_iconst (v := 4) hx hb dX12_feed_73 (by decide) ?_
  refine lv_irem hx hb dX12_feed_74 (by decide) ?_
  refine gz_topi (y := 2) (by decide) ?_
  refine lv_imul hx hb dX12_feed_75 ?_
  refine gz_topi (y := 16) (by decide) ?_
  refine lv_isub hx hb dX12_feed_76 ?_
  refine gz_topi (y := 8) (by decide) ?_
  refine lv_iushr hx hb dX12_feed_77 rfl ?_
  refine lv_topi (fun x_21 ex_21 => ?_)
  refine lv_sipush (v := 255) hx hb dX12_feed_78 (by decide) ?_
  refine lv_iand hx hb dX12_feed_81 ?_
  refine lv_topi (fun x_22 ex_22 => ?_)
  refine va_iast hx hb hK hP hD hS 1 0 rfl rfl (by unfold vp_in; decide) dX12_feed_82 (fun H locs hP hD hS => ?_)
  have hP : va_P (dC, dI) vwCl [(h0, .inr (12, fsM r)), ((r 13), .inl ((kf 13), 1600, .inl (upd f_18 (2 : Int32).toNatClampNeg x_22))), (q_2, .inl (k_3, 5, .inl f_8))] H := hP
  have hD : va_D A [(h0, .inr (12, fsM r)), ((r 13), .inl ((kf 13), 1600, .inl (upd f_18 (2 : Int32).toNatClampNeg x_22))), (q_2, .inl (k_3, 5, .inl f_8))] := hD
  generalize upd f_18 (2 : Int32).toNatClampNeg x_22 = f_23 at hP hD
  refine lv_iinc (v := 3) (lv' := [(7, .int 3), (6, .ref q_2), (0, .ref h0), (1, .int p0), (2, .int p1), (3, .int p2), (4, .int p3), (5, .int p4)]) hx hb dX12_feed_83 hl (k := 0) rfl (by decide) (by decide) rfl (fun ls hl => ?_)
  refine lv_goto (tgt := 42) hx hb dX12_feed_86 (by decide) ?_
  refine lv_iload hx hb dX12_feed_42 (lv_at hl 0 rfl) ?_
  refine lv_bipush (v := 20) hx hb dX12_feed_44 (by decide) ?_
  refine lv_icmp_ge (tgt := 89) hx hb dX12_feed_46 (by decide) (fun c_24 => absurd c_24 (by decide)) (fun c_24 => ?_)
  refine lv_aload_n hx hb dX12_feed_49 rfl (lv_at hl 2 rfl) ?_
  refine va_get (D := (dC, dI)) (ci := 12) (v := .ref (r 13)) (C := RX12) (T := TX12) (N := 57) hx hb hts (fun w h => List.mem_cons_of_mem _ (jnGB_X12 w h)) hown hK hP 0 rfl rfl 25 (by decide) (hts _ (List.mem_cons_of_mem _ mGB_52)) (fun _ h9 => h9) rfl dX12_feed_50 ?_
  refine lv_aload_n hx hb dX12_feed_53 rfl (lv_at hl 2 rfl) ?_
  refine va_get (D := (dC, dI)) (ci := 12) (v := .int 0) (C := RX12) (T := TX12) (N := 57) hx hb hts (fun w h => List.mem_cons_of_mem _ (jnGB_X12 w h)) hown hK hP 0 rfl rfl 26 (by decide) (hts _ (List.mem_cons_of_mem _ mGB_30)) (fun _ h9 => h9) rfl dX12_feed_54 ?_
  refine lv_iload hx hb dX12_feed_57 (lv_at hl 0 rfl) ?_
  refine lv_iadd hx hb dX12_feed_59 ?_
  refine gz_topi (y := 3) (by decide) ?_
  refine lv_aload hx hb dX12_feed_60 (lv_at hl 1 rfl) ?_
  refine lv_iload hx hb dX12_feed_62 (lv_at hl 0 rfl) ?_
  refine lv_iconst (v := 4) hx hb dX12_feed_64 (by decide) ?_
  refine lv_idiv hx hb dX12_feed_65 (by decide) ?_
  refine gz_topi (y := 0) (by decide) ?_
  refine va_iald hx hb hK hP 2 1 rfl rfl (by unfold vp_in; decide) dX12_feed_66 ?_
  refine lv_topi (fun x_25 ex_25 => ?_)
  refine lv_bipush (v := 24) hx hb dX12_feed_67 (by decide) ?_
  refine lv_bipush (v := 8) hx hb dX12_feed_69 (by decide) ?_
  refine lv_iload hx hb dX12_feed_71 (lv_at hl 0 rfl) ?_
  refine lv_iconst (v := 4) hx hb dX12_feed_73 (by decide) ?_
  refine lv_irem hx hb dX12_feed_74 (by decide) ?_
  refine gz_topi (y := 3) (by decide) ?_
  refine lv_imul hx hb dX12_feed_75 ?_
  refine gz_topi (y := 24) (by decide) ?_
  refine lv_isub hx hb dX12_feed_76 ?_
  refine gz_topi (y := 0) (by decide) ?_
  refine lv_iushr hx hb dX12_feed_77 rfl ?_
  refine lv_topi (fun x_26 ex_26 => ?_)
  refine lv_sipush (v := 255) hx hb dX12_feed_78 (by decide) ?_
  refine lv_iand hx hb dX12_feed_81 ?_
  refine lv_topi (fun x_27 ex_27 => ?_)
  refine va_iast hx hb hK hP hD hS 1 0 rfl rfl (by unfold vp_in; decide) dX12_feed_82 (fun H locs hP hD hS => ?_)
  have hP : va_P (dC, dI) vwCl [(h0, .inr (12, fsM r)), ((r 13), .inl ((kf 13), 1600, .inl (upd f_23 (3 : Int32).toNatClampNeg x_27))), (q_2, .inl (k_3, 5, .inl f_8))] H := hP
  have hD : va_D A [(h0, .inr (12, fsM r)), ((r 13), .inl ((kf 13), 1600, .inl (upd f_23 (3 : Int32).toNatClampNeg x_27))), (q_2, .inl (k_3, 5, .inl f_8))] := hD
  generalize upd f_23 (3 : Int32).toNatClampNeg x_27 = f_28 at hP hD
  refine lv_iinc (v := 4) (lv' := [(7, .int 4), (6, .ref q_2), (0, .ref h0), (1, .int p0), (2, .int p1), (3, .int p2), (4, .int p3), (5, .int p4)]) hx hb dX12_feed_83 hl (k := 0) rfl (by decide) (by decide) rfl (fun ls hl => ?_)
  refine lv_goto (tgt := 42) hx hb dX12_feed_86 (by decide) ?_
  refine lv_iload hx hb dX12_feed_42 (lv_at hl 0 rfl) ?_
  refine lv_bipush (v := 20) hx hb dX12_feed_44 (by decide) ?_
  refine lv_icmp_ge (tgt := 89) hx hb dX12_feed_46 (by decide) (fun c_29 => absurd c_29 (by decide)) (fun c_29 => ?_)
  refine lv_aload_n hx hb dX12_feed_49 rfl (lv_at hl 2 rfl) ?_
  refine va_get (D := (dC, dI)) (ci := 12) (v := .ref (r 13)) (C := RX12) (T := TX12) (N := 57) hx hb hts (fun w h => List.mem_cons_of_mem _ (jnGB_X12 w h)) hown hK hP 0 rfl rfl 25 (by decide) (hts _ (List.mem_cons_of_mem _ mGB_52)) (fun _ h9 => h9) rfl dX12_feed_50 ?_
  refine lv_aload_n hx hb dX12_feed_53 rfl (lv_at hl 2 rfl) ?_
  refine va_get (D := (dC, dI)) (ci := 12) (v := .int 0) (C := RX12) (T := TX12) (N := 57) hx hb hts (fun w h => List.mem_cons_of_mem _ (jnGB_X12 w h)) hown hK hP 0 rfl rfl 26 (by decide) (hts _ (List.mem_cons_of_mem _ mGB_30)) (fun _ h9 => h9) rfl dX12_feed_54 ?_
  refine lv_iload hx hb dX12_feed_57 (lv_at hl 0 rfl) ?_
  refine lv_iadd hx hb dX12_feed_59 ?_
  refine gz_topi (y := 4) (by decide) ?_
  refine lv_aload hx hb dX12_feed_60 (lv_at hl 1 rfl) ?_
  refine lv_iload hx hb dX12_feed_62 (lv_at hl 0 rfl) ?_
  refine lv_iconst (v := 4) hx hb dX12_feed_64 (by decide) ?_
  refine lv_idiv hx hb dX12_feed_65 (by decide) ?_
  refine gz_topi (y := 1) (by decide) ?_
  refine va_iald hx hb hK hP 2 1 rfl rfl (by unfold vp_in; decide) dX12_feed_66 ?_
  refine lv_topi (fun x_30 ex_30 => ?_)
  refine lv_bipush (v := 24) hx hb dX12_feed_67 (by decide) ?_
  refine lv_bipush (v := 8) hx hb dX12_feed_69 (by decide) ?_
  refine lv_iload hx hb dX12_feed_71 (lv_at hl 0 rfl) ?_
  refine lv_iconst (v := 4) hx hb dX12_feed_73 (by decide) ?_
  refine lv_irem hx hb dX12_feed_74 (by decide) ?_
  refine gz_topi (y := 0) (by decide) ?_
  refine lv_imul hx hb dX12_feed_75 ?_
  refine gz_topi (y := 0) (by decide) ?_
  refine lv_isub hx hb dX12_feed_76 ?_
  refine gz_topi (y := 24) (by decide) ?_
  refine lv_iushr hx hb dX12_feed_77 rfl ?_
  refine lv_topi (fun x_31 ex_31 => ?_)
  refine lv_sipush (v := 255) hx hb dX12_feed_78 (by decide) ?_
  refine lv_iand hx hb dX12_feed_81 ?_
  refine lv_topi (fun x_32 ex_32 => ?_)
  refine va_iast hx hb hK hP hD hS 1 0 rfl rfl (by unfold vp_in; decide) dX12_feed_82 (fun H locs hP hD hS => ?_)
  have hP : va_P (dC, dI) vwCl [(h0, .inr (12, fsM r)), ((r 13), .inl ((kf 13), 1600, .inl (upd f_28 (4 : Int32).toNatClampNeg x_32))), (q_2, .inl (k_3, 5, .inl f_8))] H := hP
  have hD : va_D A [(h0, .inr (12, fsM r)), ((r 13), .inl ((kf 13), 1600, .inl (upd f_28 (4 : Int32).toNatClampNeg x_32))), (q_2, .inl (k_3, 5, .inl f_8))] := hD
  generalize upd f_28 (4 : Int32).toNatClampNeg x_32 = f_33 at hP hD
  refine lv_iinc (v := 5) (lv' := [(7, .int 5), (6, .ref q_2), (0, .ref h0), (1, .int p0), (2, .int p1), (3, .int p2), (4, .int p3), (5, .int p4)]) hx hb dX12_feed_83 hl (k := 0) rfl (by decide) (by decide) rfl (fun ls hl => ?_)
  refine lv_goto (tgt := 42) hx hb dX12_feed_86 (by decide) ?_
  refine lv_iload hx hb dX12_feed_42 (lv_at hl 0 rfl) ?_
  refine lv_bipush (v := 20) hx hb dX12_feed_44 (by decide) ?_
  refine lv_icmp_ge (tgt := 89) hx hb dX12_feed_46 (by decide) (fun c_34 => absurd c_34 (by decide)) (fun c_34 => ?_)
  refine lv_aload_n hx hb dX12_feed_49 rfl (lv_at hl 2 rfl) ?_
  refine va_get (D := (dC, dI)) (ci := 12) (v := .ref (r 13)) (C := RX12) (T := TX12) (N := 57) hx hb hts (fun w h => List.mem_cons_of_mem _ (jnGB_X12 w h)) hown hK hP 0 rfl rfl 25 (by decide) (hts _ (List.mem_cons_of_mem _ mGB_52)) (fun _ h9 => h9) rfl dX12_feed_50 ?_
  refine lv_aload_n hx hb dX12_feed_53 rfl (lv_at hl 2 rfl) ?_
  refine va_get (D := (dC, dI)) (ci := 12) (v := .int 0) (C := RX12) (T := TX12) (N := 57) hx hb hts (fun w h => List.mem_cons_of_mem _ (jnGB_X12 w h)) hown hK hP 0 rfl rfl 26 (by decide) (hts _ (List.mem_cons_of_mem _ mGB_30)) (fun _ h9 => h9) rfl dX12_feed_54 ?_
  refine lv_iload hx hb dX12_feed_57 (lv_at hl 0 rfl) ?_
  refine lv_iadd hx hb dX12_feed_59 ?_
  refine gz_topi (y := 5) (by decide) ?_
  refine lv_aload hx hb dX12_feed_60 (lv_at hl 1 rfl) ?_
  refine lv_iload hx hb dX12_feed_62 (lv_at hl 0 rfl) ?_
  refine lv_iconst (v := 4) hx hb dX12_feed_64 (by decide) ?_
  refine lv_idiv hx hb dX12_feed_65 (by decide) ?_
  refine gz_topi (y := 1) (by decide) ?_
  refine va_iald hx hb hK hP 2 1 rfl rfl (by unfold vp_in; decide) dX12_feed_66 ?_
  refine lv_topi (fun x_35 ex_35 => ?_)
  refine lv_bipush (v := 24) hx hb dX12_feed_67 (by decide) ?_
  refine lv_bipush (v := 8) hx hb dX12_feed_69 (by decide) ?_
  refine lv_iload hx hb dX12_feed_71 (lv_at hl 0 rfl) ?_
  refine lv_iconst (v := 4) hx hb dX12_feed_73 (by decide) ?_
  refine lv_irem hx hb dX12_feed_74 (by decide) ?_
  refine gz_topi (y := 1) (by decide) ?_
  refine lv_imul hx hb dX12_feed_75 ?_
  refine gz_topi (y := 8) (by decide) ?_
  refine lv_isub hx hb dX12_feed_76 ?_
  refine gz_topi (y := 16) (by decide) ?_
  refine lv_iushr hx hb dX12_feed_77 rfl ?_
  refine lv_topi (fun x_36 ex_36 => ?_)
  refine lv_sipush (v := 255) hx hb dX12_feed_78 (by decide) ?_
  refine lv_iand hx hb dX12_feed_81 ?_
  refine lv_topi (fun x_37 ex_37 => ?_)
  refine va_iast hx hb hK hP hD hS 1 0 rfl rfl (by unfold vp_in; decide) dX12_feed_82 (fun H locs hP hD hS => ?_)
  have hP : va_P (dC, dI) vwCl [(h0, .inr (12, fsM r)), ((r 13), .inl ((kf 13), 1600, .inl (upd f_33 (5 : Int32).toNatClampNeg x_37))), (q_2, .inl (k_3, 5, .inl f_8))] H := hP
  have hD : va_D A [(h0, .inr (12, fsM r)), ((r 13), .inl ((kf 13), 1600, .inl (upd f_33 (5 : Int32).toNatClampNeg x_37))), (q_2, .inl (k_3, 5, .inl f_8))] := hD
  generalize upd f_33 (5 : Int32).toNatClampNeg x_37 = f_38 at hP hD
  refine lv_iinc (v := 6) (lv' := [(7, .int 6), (6, .ref q_2), (0, .ref h0), (1, .int p0), (2, .int p1), (3, .int p2), (4, .int p3), (5, .int p4)]) hx hb dX12_feed_83 hl (k := 0) rfl (by decide) (by decide) rfl (fun ls hl => ?_)
  refine lv_goto (tgt := 42) hx hb dX12_feed_86 (by decide) ?_
  refine lv_iload hx hb dX12_feed_42 (lv_at hl 0 rfl) ?_
  refine lv_bipush (v := 20) hx hb dX12_feed_44 (by decide) ?_
  refine lv_icmp_ge (tgt := 89) hx hb dX12_feed_46 (by decide) (fun c_39 => absurd c_39 (by decide)) (fun c_39 => ?_)
  refine lv_aload_n hx hb dX12_feed_49 rfl (lv_at hl 2 rfl) ?_
  refine va_get (D := (dC, dI)) (ci := 12) (v := .ref (r 13)) (C := RX12) (T := TX12) (N := 57) hx hb hts (fun w h => List.mem_cons_of_mem _ (jnGB_X12 w h)) hown hK hP 0 rfl rfl 25 (by decide) (hts _ (List.mem_cons_of_mem _ mGB_52)) (fun _ h9 => h9) rfl dX12_feed_50 ?_
  refine lv_aload_n hx hb dX12_feed_53 rfl (lv_at hl 2 rfl) ?_
  refine va_get (D := (dC, dI)) (ci := 12) (v := .int 0) (C := RX12) (T := TX12) (N := 57) hx hb hts (fun w h => List.mem_cons_of_mem _ (jnGB_X12 w h)) hown hK hP 0 rfl rfl 26 (by decide) (hts _ (List.mem_cons_of_mem _ mGB_30)) (fun _ h9 => h9) rfl dX12_feed_54 ?_
  refine lv_iload hx hb dX12_feed_57 (lv_at hl 0 rfl) ?_
  refine lv_iadd hx hb dX12_feed_59 ?_
  refine gz_topi (y := 6) (by decide) ?_
  refine lv_aload hx hb dX12_feed_60 (lv_at hl 1 rfl) ?_
  refine lv_iload hx hb dX12_feed_62 (lv_at hl 0 rfl) ?_
  refine lv_iconst (v := 4) hx hb dX12_feed_64 (by decide) ?_
  refine lv_idiv hx hb dX12_feed_65 (by decide) ?_
  refine gz_topi (y := 1) (by decide) ?_
  refine va_iald hx hb hK hP 2 1 rfl rfl (by unfold vp_in; decide) dX12_feed_66 ?_
  refine lv_topi (fun x_40 ex_40 => ?_)
  refine lv_bipush (v := 24) hx hb dX12_feed_67 (by decide) ?_
  refine lv_bipush (v := 8) hx hb dX12_feed_69 (by decide) ?_
  refine lv_iload hx hb dX12_feed_71 (lv_at hl 0 rfl) ?_
  refine lv_iconst (v := 4) hx hb dX12_feed_73 (by decide) ?_
  refine lv_irem hx hb dX12_feed_74 (by decide) ?_
  refine gz_topi (y := 2) (by decide) ?_
  refine lv_imul hx hb dX12_feed_75 ?_
  refine gz_topi (y := 16) (by decide) ?_
  refine lv_isub hx hb dX12_feed_76 ?_
  refine gz_topi (y := 8) (by decide) ?_
  refine lv_iushr hx hb dX12_feed_77 rfl ?_
  refine lv_topi (fun x_41 ex_41 => ?_)
  refine lv_sipush (v := 255) hx hb dX12_feed_78 (by decide) ?_
  refine lv_iand hx hb dX12_feed_81 ?_
  refine lv_topi (fun x_42 ex_42 => ?_)
  refine va_iast hx hb hK hP hD hS 1 0 rfl rfl (by unfold vp_in; decide) dX12_feed_82 (fun H locs hP hD hS => ?_)
  have hP : va_P (dC, dI) vwCl [(h0, .inr (12, fsM r)), ((r 13), .inl ((kf 13), 1600, .inl (upd f_38 (6 : Int32).toNatClampNeg x_42))), (q_2, .inl (k_3, 5, .inl f_8))] H := hP
  have hD : va_D A [(h0, .inr (12, fsM r)), ((r 13), .inl ((kf 13), 1600, .inl (upd f_38 (6 : Int32).toNatClampNeg x_42))), (q_2, .inl (k_3, 5, .inl f_8))] := hD
  generalize upd f_38 (6 : Int32).toNatClampNeg x_42 = f_43 at hP hD
  refine lv_iinc (v := 7) (lv' := [(7, .int 7), (6, .ref q_2), (0, .ref h0), (1, .int p0), (2, .int p1), (3, .int p2), (4, .int p3), (5, .int p4)]) hx hb dX12_feed_83 hl (k := 0) rfl (by decide) (by decide) rfl (fun ls hl => ?_)
  refine lv_goto (tgt := 42) hx hb dX12_feed_86 (by decide) ?_
  refine lv_iload hx hb dX12_feed_42 (lv_at hl 0 rfl) ?_
  refine lv_bipush (v := 20) hx hb dX12_feed_44 (by decide) ?_
  refine lv_icmp_ge (tgt := 89) hx hb dX12_feed_46 (by decide) (fun c_44 => absurd c_44 (by decide)) (fun c_44 => ?_)
  refine lv_aload_n hx hb dX12_feed_49 rfl (lv_at hl 2 rfl) ?_
  refine va_get (D := (dC, dI)) (ci := 12) (v := .ref (r 13)) (C := RX12) (T := TX12) (N := 57) hx hb hts (fun w h => List.mem_cons_of_mem _ (jnGB_X12 w h)) hown hK hP 0 rfl rfl 25 (by decide) (hts _ (List.mem_cons_of_mem _ mGB_52)) (fun _ h9 => h9) rfl dX12_feed_50 ?_
  refine lv_aload_n hx hb dX12_feed_53 rfl (lv_at hl 2 rfl) ?_
  refine va_get (D := (dC, dI)) (ci := 12) (v := .int 0) (C := RX12) (T := TX12) (N := 57) hx hb hts (fun w h => List.mem_cons_of_mem _ (jnGB_X12 w h)) hown hK hP 0 rfl rfl 26 (by decide) (hts _ (List.mem_cons_of_mem _ mGB_30)) (fun _ h9 => h9) rfl dX12_feed_54 ?_
  refine lv_iload hx hb dX12_feed_57 (lv_at hl 0 rfl) ?_
  refine lv_iadd hx hb dX12_feed_59 ?_
  refine gz_topi (y := 7) (by decide) ?_
  refine lv_aload hx hb dX12_feed_60 (lv_at hl 1 rfl) ?_
  refine lv_iload hx hb dX12_feed_62 (lv_at hl 0 rfl) ?_
  refine lv_iconst (v := 4) hx hb dX12_feed_64 (by decide) ?_
  refine lv_idiv hx hb dX12_feed_65 (by decide) ?_
  refine gz_topi (y := 1) (by decide) ?_
  refine va_iald hx hb hK hP 2 1 rfl rfl (by unfold vp_in; decide) dX12_feed_66 ?_
  refine lv_topi (fun x_45 ex_45 => ?_)
  refine lv_bipush (v := 24) hx hb dX12_feed_67 (by decide) ?_
  refine lv_bipush (v := 8) hx hb dX12_feed_69 (by decide) ?_
  refine lv_iload hx hb dX12_feed_71 (lv_at hl 0 rfl) ?_
  refine lv_iconst (v := 4) hx hb dX12_feed_73 (by decide) ?_
  refine lv_irem hx hb dX12_feed_74 (by decide) ?_
  refine gz_topi (y := 3) (by decide) ?_
  refine lv_imul hx hb dX12_feed_75 ?_
  refine gz_topi (y := 24) (by decide) ?_
  refine lv_isub hx hb dX12_feed_76 ?_
  refine gz_topi (y := 0) (by decide) ?_
  refine lv_iushr hx hb dX12_feed_77 rfl ?_
  refine lv_topi (fun x_46 ex_46 => ?_)
  refine lv_sipush (v := 255) hx hb dX12_feed_78 (by decide) ?_
  refine lv_iand hx hb dX12_feed_81 ?_
  refine lv_topi (fun x_47 ex_47 => ?_)
  refine va_iast hx hb hK hP hD hS 1 0 rfl rfl (by unfold vp_in; decide) dX12_feed_82 (fun H locs hP hD hS => ?_)
  have hP : va_P (dC, dI) vwCl [(h0, .inr (12, fsM r)), ((r 13), .inl ((kf 13), 1600, .inl (upd f_43 (7 : Int32).toNatClampNeg x_47))), (q_2, .inl (k_3, 5, .inl f_8))] H := hP
  have hD : va_D A [(h0, .inr (12, fsM r)), ((r 13), .inl ((kf 13), 1600, .inl (upd f_43 (7 : Int32).toNatClampNeg x_47))), (q_2, .inl (k_3, 5, .inl f_8))] := hD
  generalize upd f_43 (7 : Int32).toNatClampNeg x_47 = f_48 at hP hD
  refine lv_iinc (v := 8) (lv' := [(7, .int 8), (6, .ref q_2), (0, .ref h0), (1, .int p0), (2, .int p1), (3, .int p2), (4, .int p3), (5, .int p4)]) hx hb dX12_feed_83 hl (k := 0) rfl (by decide) (by decide) rfl (fun ls hl => ?_)
  refine lv_goto (tgt := 42) hx hb dX12_feed_86 (by decide) ?_
  refine lv_iload hx hb dX12_feed_42 (lv_at hl 0 rfl) ?_
  refine lv_bipush (v := 20) hx hb dX12_feed_44 (by decide) ?_
  refine lv_icmp_ge (tgt := 89) hx hb dX12_feed_46 (by decide) (fun c_49 => absurd c_49 (by decide)) (fun c_49 => ?_)
  refine lv_aload_n hx hb dX12_feed_49 rfl (lv_at hl 2 rfl) ?_
  refine va_get (D := (dC, dI)) (ci := 12) (v := .ref (r 13)) (C := RX12) (T := TX12) (N := 57) hx hb hts (fun w h => List.mem_cons_of_mem _ (jnGB_X12 w h)) hown hK hP 0 rfl rfl 25 (by decide) (hts _ (List.mem_cons_of_mem _ mGB_52)) (fun _ h9 => h9) rfl dX12_feed_50 ?_
  refine lv_aload_n hx hb dX12_feed_53 rfl (lv_at hl 2 rfl) ?_
  refine va_get (D := (dC, dI)) (ci := 12) (v := .int 0) (C := RX12) (T := TX12) (N := 57) hx hb hts (fun w h => List.mem_cons_of_mem _ (jnGB_X12 w h)) hown hK hP 0 rfl rfl 26 (by decide) (hts _ (List.mem_cons_of_mem _ mGB_30)) (fun _ h9 => h9) rfl dX12_feed_54 ?_
  refine lv_iload hx hb dX12_feed_57 (lv_at hl 0 rfl) ?_
  refine lv_iadd hx hb dX12_feed_59 ?_
  refine gz_topi (y := 8) (by decide) ?_
  refine lv_aload hx hb dX12_feed_60 (lv_at hl 1 rfl) ?_
  refine lv_iload hx hb dX12_feed_62 (lv_at hl 0 rfl) ?_
  refine lv_iconst (v := 4) hx hb dX12_feed_64 (by decide) ?_
  refine lv_idiv hx hb dX12_feed_65 (by decide) ?_
  refine gz_topi (y := 2) (by decide) ?_
  refine va_iald hx hb hK hP 2 1 rfl rfl (by unfold vp_in; decide) dX12_feed_66 ?_
  refine lv_topi (fun x_50 ex_50 => ?_)
  refine lv_bipush (v := 24) hx hb dX12_feed_67 (by decide) ?_
  refine lv_bipush (v := 8) hx hb dX12_feed_69 (by decide) ?_
  refine lv_iload hx hb dX12_feed_71 (lv_at hl 0 rfl) ?_
  refine lv_iconst (v := 4) hx hb dX12_feed_73 (by decide) ?_
  refine lv_irem hx hb dX12_feed_74 (by decide) ?_
  refine gz_topi (y := 0) (by decide) ?_
  refine lv_imul hx hb dX12_feed_75 ?_
  refine gz_topi (y := 0) (by decide) ?_
  refine lv_isub hx hb dX12_feed_76 ?_
  refine gz_topi (y := 24) (by decide) ?_
  refine lv_iushr hx hb dX12_feed_77 rfl ?_
  refine lv_topi (fun x_51 ex_51 => ?_)
  refine lv_sipush (v := 255) hx hb dX12_feed_78 (by decide) ?_
  refine lv_iand hx hb dX12_feed_81 ?_
  refine lv_topi (fun x_52 ex_52 => ?_)
  refine va_iast hx hb hK hP hD hS 1 0 rfl rfl (by unfold vp_in; decide) dX12_feed_82 (fun H locs hP hD hS => ?_)
  have hP : va_P (dC, dI) vwCl [(h0, .inr (12, fsM r)), ((r 13), .inl ((kf 13), 1600, .inl (upd f_48 (8 : Int32).toNatClampNeg x_52))), (q_2, .inl (k_3, 5, .inl f_8))] H := hP
  have hD : va_D A [(h0, .inr (12, fsM r)), ((r 13), .inl ((kf 13), 1600, .inl (upd f_48 (8 : Int32).toNatClampNeg x_52))), (q_2, .inl (k_3, 5, .inl f_8))] := hD
  generalize upd f_48 (8 : Int32).toNatClampNeg x_52 = f_53 at hP hD
  refine lv_iinc (v := 9) (lv' := [(7, .int 9), (6, .ref q_2), (0, .ref h0), (1, .int p0), (2, .int p1), (3, .int p2), (4, .int p3), (5, .int p4)]) hx hb dX12_feed_83 hl (k := 0) rfl (by decide) (by decide) rfl (fun ls hl => ?_)
  refine lv_goto (tgt := 42) hx hb dX12_feed_86 (by decide) ?_
  refine lv_iload hx hb dX12_feed_42 (lv_at hl 0 rfl) ?_
  refine lv_bipush (v := 20) hx hb dX12_feed_44 (by decide) ?_
  refine lv_icmp_ge (tgt := 89) hx hb dX12_feed_46 (by decide) (fun c_54 => absurd c_54 (by decide)) (fun c_54 => ?_)
  refine lv_aload_n hx hb dX12_feed_49 rfl (lv_at hl 2 rfl) ?_
  refine va_get (D := (dC, dI)) (ci := 12) (v := .ref (r 13)) (C := RX12) (T := TX12) (N := 57) hx hb hts (fun w h => List.mem_cons_of_mem _ (jnGB_X12 w h)) hown hK hP 0 rfl rfl 25 (by decide) (hts _ (List.mem_cons_of_mem _ mGB_52)) (fun _ h9 => h9) rfl dX12_feed_50 ?_
  refine lv_aload_n hx hb dX12_feed_53 rfl (lv_at hl 2 rfl) ?_
  refine va_get (D := (dC, dI)) (ci := 12) (v := .int 0) (C := RX12) (T := TX12) (N := 57) hx hb hts (fun w h => List.mem_cons_of_mem _ (jnGB_X12 w h)) hown hK hP 0 rfl rfl 26 (by decide) (hts _ (List.mem_cons_of_mem _ mGB_30)) (fun _ h9 => h9) rfl dX12_feed_54 ?_
  refine lv_iload hx hb dX12_feed_57 (lv_at hl 0 rfl) ?_
  refine lv_iadd hx hb dX12_feed_59 ?_
  refine gz_topi (y := 9) (by decide) ?_
  refine lv_aload hx hb dX12_feed_60 (lv_at hl 1 rfl) ?_
  refine lv_iload hx hb dX12_feed_62 (lv_at hl 0 rfl) ?_
  refine lv_iconst (v := 4) hx hb dX12_feed_64 (by decide) ?_
  refine lv_idiv hx hb dX12_feed_65 (by decide) ?_
  refine gz_topi (y := 2) (by decide) ?_
  refine va_iald hx hb hK hP 2 1 rfl rfl (by unfold vp_in; decide) dX12_feed_66 ?_
  refine lv_topi (fun x_55 ex_55 => ?_)
  refine lv_bipush (v := 24) hx hb dX12_feed_67 (by decide) ?_
  refine lv_bipush (v := 8) hx hb dX12_feed_69 (by decide) ?_
  refine lv_iload hx hb dX12_feed_71 (lv_at hl 0 rfl) ?_
  refine lv_iconst (v := 4) hx hb dX12_feed_73 (by decide) ?_
  refine lv_irem hx hb dX12_feed_74 (by decide) ?_
  refine gz_topi (y := 1) (by decide) ?_
  refine lv_imul hx hb dX12_feed_75 ?_
  refine gz_topi (y := 8) (by decide) ?_
  refine lv_isub hx hb dX12_feed_76 ?_
  refine gz_topi (y := 16) (by decide) ?_
  refine lv_iushr hx hb dX12_feed_77 rfl ?_
  refine lv_topi (fun x_56 ex_56 => ?_)
  refine lv_sipush (v := 255) hx hb dX12_feed_78 (by decide) ?_
  refine lv_iand hx hb dX12_feed_81 ?_
  refine lv_topi (fun x_57 ex_57 => ?_)
  refine va_iast hx hb hK hP hD hS 1 0 rfl rfl (by unfold vp_in; decide) dX12_feed_82 (fun H locs hP hD hS => ?_)
  have hP : va_P (dC, dI) vwCl [(h0, .inr (12, fsM r)), ((r 13), .inl ((kf 13), 1600, .inl (upd f_53 (9 : Int32).toNatClampNeg x_57))), (q_2, .inl (k_3, 5, .inl f_8))] H := hP
  have hD : va_D A [(h0, .inr (12, fsM r)), ((r 13), .inl ((kf 13), 1600, .inl (upd f_53 (9 : Int32).toNatClampNeg x_57))), (q_2, .inl (k_3, 5, .inl f_8))] := hD
  generalize upd f_53 (9 : Int32).toNatClampNeg x_57 = f_58 at hP hD
  refine lv_iinc (v := 10) (lv' := [(7, .int 10), (6, .ref q_2), (0, .ref h0), (1, .int p0), (2, .int p1), (3, .int p2), (4, .int p3), (5, .int p4)]) hx hb dX12_feed_83 hl (k := 0) rfl (by decide) (by decide) rfl (fun ls hl => ?_)
  refine lv_goto (tgt := 42) hx hb dX12_feed_86 (by decide) ?_
  refine lv_iload hx hb dX12_feed_42 (lv_at hl 0 rfl) ?_
  refine lv_bipush (v := 20) hx hb dX12_feed_44 (by decide) ?_
  refine lv_icmp_ge (tgt := 89) hx hb dX12_feed_46 (by decide) (fun c_59 => absurd c_59 (by decide)) (fun c_59 => ?_)
  refine lv_aload_n hx hb dX12_feed_49 rfl (lv_at hl 2 rfl) ?_
  refine va_get (D := (dC, dI)) (ci := 12) (v := .ref (r 13)) (C := RX12) (T := TX12) (N := 57) hx hb hts (fun w h => List.mem_cons_of_mem _ (jnGB_X12 w h)) hown hK hP 0 rfl rfl 25 (by decide) (hts _ (List.mem_cons_of_mem _ mGB_52)) (fun _ h9 => h9) rfl dX12_feed_50 ?_
  refine lv_aload_n hx hb dX12_feed_53 rfl (lv_at hl 2 rfl) ?_
  refine va_get (D := (dC, dI)) (ci := 12) (v := .int 0) (C := RX12) (T := TX12) (N := 57) hx hb hts (fun w h => List.mem_cons_of_mem _ (jnGB_X12 w h)) hown hK hP 0 rfl rfl 26 (by decide) (hts _ (List.mem_cons_of_mem _ mGB_30)) (fun _ h9 => h9) rfl dX12_feed_54 ?_
  refine lv_iload hx hb dX12_feed_57 (lv_at hl 0 rfl) ?_
  refine lv_iadd hx hb dX12_feed_59 ?_
  refine gz_topi (y := 10) (by decide) ?_
  refine lv_aload hx hb dX12_feed_60 (lv_at hl 1 rfl) ?_
  refine lv_iload hx hb dX12_feed_62 (lv_at hl 0 rfl) ?_
  refine lv_iconst (v := 4) hx hb dX12_feed_64 (by decide) ?_
  refine lv_idiv hx hb dX12_feed_65 (by decide) ?_
  refine gz_topi (y := 2) (by decide) ?_
  refine va_iald hx hb hK hP 2 1 rfl rfl (by unfold vp_in; decide) dX12_feed_66 ?_
  refine lv_topi (fun x_60 ex_60 => ?_)
  refine lv_bipush (v := 24) hx hb dX12_feed_67 (by decide) ?_
  refine lv_bipush (v := 8) hx hb dX12_feed_69 (by decide) ?_
  refine lv_iload hx hb dX12_feed_71 (lv_at hl 0 rfl) ?_
  refine lv_iconst (v := 4) hx hb dX12_feed_73 (by decide) ?_
  refine lv_irem hx hb dX12_feed_74 (by decide) ?_
  refine gz_topi (y := 2) (by decide) ?_
  refine lv_imul hx hb dX12_feed_75 ?_
  refine gz_topi (y := 16) (by decide) ?_
  refine lv_isub hx hb dX12_feed_76 ?_
  refine gz_topi (y := 8) (by decide) ?_
  refine lv_iushr hx hb dX12_feed_77 rfl ?_
  refine lv_topi (fun x_61 ex_61 => ?_)
  refine lv_sipush (v := 255) hx hb dX12_feed_78 (by decide) ?_
  refine lv_iand hx hb dX12_feed_81 ?_
  refine lv_topi (fun x_62 ex_62 => ?_)
  refine va_iast hx hb hK hP hD hS 1 0 rfl rfl (by unfold vp_in; decide) dX12_feed_82 (fun H locs hP hD hS => ?_)
  have hP : va_P (dC, dI) vwCl [(h0, .inr (12, fsM r)), ((r 13), .inl ((kf 13), 1600, .inl (upd f_58 (10 : Int32).toNatClampNeg x_62))), (q_2, .inl (k_3, 5, .inl f_8))] H := hP
  have hD : va_D A [(h0, .inr (12, fsM r)), ((r 13), .inl ((kf 13), 1600, .inl (upd f_58 (10 : Int32).toNatClampNeg x_62))), (q_2, .inl (k_3, 5, .inl f_8))] := hD
  generalize upd f_58 (10 : Int32).toNatClampNeg x_62 = f_63 at hP hD
  refine lv_iinc (v := 11) (lv' := [(7, .int 11), (6, .ref q_2), (0, .ref h0), (1, .int p0), (2, .int p1), (3, .int p2), (4, .int p3), (5, .int p4)]) hx hb dX12_feed_83 hl (k := 0) rfl (by decide) (by decide) rfl (fun ls hl => ?_)
  refine lv_goto (tgt := 42) hx hb dX12_feed_86 (by decide) ?_
  refine lv_iload hx hb dX12_feed_42 (lv_at hl 0 rfl) ?_
  refine lv_bipush (v := 20) hx hb dX12_feed_44 (by decide) ?_
  refine lv_icmp_ge (tgt := 89) hx hb dX12_feed_46 (by decide) (fun c_64 => absurd c_64 (by decide)) (fun c_64 => ?_)
  refine lv_aload_n hx hb dX12_feed_49 rfl (lv_at hl 2 rfl) ?_
  refine va_get (D := (dC, dI)) (ci := 12) (v := .ref (r 13)) (C := RX12) (T := TX12) (N := 57) hx hb hts (fun w h => List.mem_cons_of_mem _ (jnGB_X12 w h)) hown hK hP 0 rfl rfl 25 (by decide) (hts _ (List.mem_cons_of_mem _ mGB_52)) (fun _ h9 => h9) rfl dX12_feed_50 ?_
  refine lv_aload_n hx hb dX12_feed_53 rfl (lv_at hl 2 rfl) ?_
  refine va_get (D := (dC, dI)) (ci := 12) (v := .int 0) (C := RX12) (T := TX12) (N := 57) hx hb hts (fun w h => List.mem_cons_of_mem _ (jnGB_X12 w h)) hown hK hP 0 rfl rfl 26 (by decide) (hts _ (List.mem_cons_of_mem _ mGB_30)) (fun _ h9 => h9) rfl dX12_feed_54 ?_
  refine lv_iload hx hb dX12_feed_57 (lv_at hl 0 rfl) ?_
  refine lv_iadd hx hb dX12_feed_59 ?_
  refine gz_topi (y := 11) (by decide) ?_
  refine lv_aload hx hb dX12_feed_60 (lv_at hl 1 rfl) ?_
  refine lv_iload hx hb dX12_feed_62 (lv_at hl 0 rfl) ?_
  refine lv_iconst (v := 4) hx hb dX12_feed_64 (by decide) ?_
  refine lv_idiv hx hb dX12_feed_65 (by decide) ?_
  refine gz_topi (y := 2) (by decide) ?_
  refine va_iald hx hb hK hP 2 1 rfl rfl (by unfold vp_in; decide) dX12_feed_66 ?_
  refine lv_topi (fun x_65 ex_65 => ?_)
  refine lv_bipush (v := 24) hx hb dX12_feed_67 (by decide) ?_
  refine lv_bipush (v := 8) hx hb dX12_feed_69 (by decide) ?_
  refine lv_iload hx hb dX12_feed_71 (lv_at hl 0 rfl) ?_
  refine lv_iconst (v := 4) hx hb dX12_feed_73 (by decide) ?_
  refine lv_irem hx hb dX12_feed_74 (by decide) ?_
  refine gz_topi (y := 3) (by decide) ?_
  refine lv_imul hx hb dX12_feed_75 ?_
  refine gz_topi (y := 24) (by decide) ?_
  refine lv_isub hx hb dX12_feed_76 ?_
  refine gz_topi (y := 0) (by decide) ?_
  refine lv_iushr hx hb dX12_feed_77 rfl ?_
  refine lv_topi (fun x_66 ex_66 => ?_)
  refine lv_sipush (v := 255) hx hb dX12_feed_78 (by decide) ?_
  refine lv_iand hx hb dX12_feed_81 ?_
  refine lv_topi (fun x_67 ex_67 => ?_)
  refine va_iast hx hb hK hP hD hS 1 0 rfl rfl (by unfold vp_in; decide) dX12_feed_82 (fun H locs hP hD hS => ?_)
  have hP : va_P (dC, dI) vwCl [(h0, .inr (12, fsM r)), ((r 13), .inl ((kf 13), 1600, .inl (upd f_63 (11 : Int32).toNatClampNeg x_67))), (q_2, .inl (k_3, 5, .inl f_8))] H := hP
  have hD : va_D A [(h0, .inr (12, fsM r)), ((r 13), .inl ((kf 13), 1600, .inl (upd f_63 (11 : Int32).toNatClampNeg x_67))), (q_2, .inl (k_3, 5, .inl f_8))] := hD
  generalize upd f_63 (11 : Int32).toNatClampNeg x_67 = f_68 at hP hD
  refine lv_iinc (v := 12) (lv' := [(7, .int 12), (6, .ref q_2), (0, .ref h0), (1, .int p0), (2, .int p1), (3, .int p2), (4, .int p3), (5, .int p4)]) hx hb dX12_feed_83 hl (k := 0) rfl (by decide) (by decide) rfl (fun ls hl => ?_)
  refine lv_goto (tgt := 42) hx hb dX12_feed_86 (by decide) ?_
  refine lv_iload hx hb dX12_feed_42 (lv_at hl 0 rfl) ?_
  refine lv_bipush (v := 20) hx hb dX12_feed_44 (by decide) ?_
  refine lv_icmp_ge (tgt := 89) hx hb dX12_feed_46 (by decide) (fun c_69 => absurd c_69 (by decide)) (fun c_69 => ?_)
  refine lv_aload_n hx hb dX12_feed_49 rfl (lv_at hl 2 rfl) ?_
  refine va_get (D := (dC, dI)) (ci := 12) (v := .ref (r 13)) (C := RX12) (T := TX12) (N := 57) hx hb hts (fun w h => List.mem_cons_of_mem _ (jnGB_X12 w h)) hown hK hP 0 rfl rfl 25 (by decide) (hts _ (List.mem_cons_of_mem _ mGB_52)) (fun _ h9 => h9) rfl dX12_feed_50 ?_
  refine lv_aload_n hx hb dX12_feed_53 rfl (lv_at hl 2 rfl) ?_
  refine va_get (D := (dC, dI)) (ci := 12) (v := .int 0) (C := RX12) (T := TX12) (N := 57) hx hb hts (fun w h => List.mem_cons_of_mem _ (jnGB_X12 w h)) hown hK hP 0 rfl rfl 26 (by decide) (hts _ (List.mem_cons_of_mem _ mGB_30)) (fun _ h9 => h9) rfl dX12_feed_54 ?_
  refine lv_iload hx hb dX12_feed_57 (lv_at hl 0 rfl) ?_
  refine lv_iadd hx hb dX12_feed_59 ?_
  refine gz_topi (y := 12) (by decide) ?_
  refine lv_aload hx hb dX12_feed_60 (lv_at hl 1 rfl) ?_
  refine lv_iload hx hb dX12_feed_62 (lv_at hl 0 rfl) ?_
  refine lv_iconst (v := 4) hx hb dX12_feed_64 (by decide) ?_
  refine lv_idiv hx hb dX12_feed_65 (by decide) ?_
  refine gz_topi (y := 3) (by decide) ?_
  refine va_iald hx hb hK hP 2 1 rfl rfl (by unfold vp_in; decide) dX12_feed_66 ?_
  refine lv_topi (fun x_70 ex_70 => ?_)
  refine lv_bipush (v := 24) hx hb dX12_feed_67 (by decide) ?_
  refine lv_bipush (v := 8) hx hb dX12_feed_69 (by decide) ?_
  refine lv_iload hx hb dX12_feed_71 (lv_at hl 0 rfl) ?_
  refine lv_iconst (v := 4) hx hb dX12_feed_73 (by decide) ?_
  refine lv_irem hx hb dX12_feed_74 (by decide) ?_
  refine gz_topi (y := 0) (by decide) ?_
  refine lv_imul hx hb dX12_feed_75 ?_
  refine gz_topi (y := 0) (by decide) ?_
  refine lv_isub hx hb dX12_feed_76 ?_
  refine gz_topi (y := 24) (by decide) ?_
  refine lv_iushr hx hb dX12_feed_77 rfl ?_
  refine lv_topi (fun x_71 ex_71 => ?_)
  refine lv_sipush (v := 255) hx hb dX12_feed_78 (by decide) ?_
  refine lv_iand hx hb dX12_feed_81 ?_
  refine lv_topi (fun x_72 ex_72 => ?_)
  refine va_iast hx hb hK hP hD hS 1 0 rfl rfl (by unfold vp_in; decide) dX12_feed_82 (fun H locs hP hD hS => ?_)
  have hP : va_P (dC, dI) vwCl [(h0, .inr (12, fsM r)), ((r 13), .inl ((kf 13), 1600, .inl (upd f_68 (12 : Int32).toNatClampNeg x_72))), (q_2, .inl (k_3, 5, .inl f_8))] H := hP
  have hD : va_D A [(h0, .inr (12, fsM r)), ((r 13), .inl ((kf 13), 1600, .inl (upd f_68 (12 : Int32).toNatClampNeg x_72))), (q_2, .inl (k_3, 5, .inl f_8))] := hD
  generalize upd f_68 (12 : Int32).toNatClampNeg x_72 = f_73 at hP hD
  refine lv_iinc (v := 13) (lv' := [(7, .int 13), (6, .ref q_2), (0, .ref h0), (1, .int p0), (2, .int p1), (3, .int p2), (4, .int p3), (5, .int p4)]) hx hb dX12_feed_83 hl (k := 0) rfl (by decide) (by decide) rfl (fun ls hl => ?_)
  refine lv_goto (tgt := 42) hx hb dX12_feed_86 (by decide) ?_
  refine lv_iload hx hb dX12_feed_42 (lv_at hl 0 rfl) ?_
  refine lv_bipush (v := 20) hx hb dX12_feed_44 (by decide) ?_
  refine lv_icmp_ge (tgt := 89) hx hb dX12_feed_46 (by decide) (fun c_74 => absurd c_74 (by decide)) (fun c_74 => ?_)
  refine lv_aload_n hx hb dX12_feed_49 rfl (lv_at hl 2 rfl) ?_
  refine va_get (D := (dC, dI)) (ci := 12) (v := .ref (r 13)) (C := RX12) (T := TX12) (N := 57) hx hb hts (fun w h => List.mem_cons_of_mem _ (jnGB_X12 w h)) hown hK hP 0 rfl rfl 25 (by decide) (hts _ (List.mem_cons_of_mem _ mGB_52)) (fun _ h9 => h9) rfl dX12_feed_50 ?_
  refine lv_aload_n hx hb dX12_feed_53 rfl (lv_at hl 2 rfl) ?_
  refine va_get (D := (dC, dI)) (ci := 12) (v := .int 0) (C := RX12) (T := TX12) (N := 57) hx hb hts (fun w h => List.mem_cons_of_mem _ (jnGB_X12 w h)) hown hK hP 0 rfl rfl 26 (by decide) (hts _ (List.mem_cons_of_mem _ mGB_30)) (fun _ h9 => h9) rfl dX12_feed_54 ?_
  refine lv_iload hx hb dX12_feed_57 (lv_at hl 0 rfl) ?_
  refine lv_iadd hx hb dX12_feed_59 ?_
  refine gz_topi (y := 13) (by decide) ?_
  refine lv_aload hx hb dX12_feed_60 (lv_at hl 1 rfl) ?_
  refine lv_iload hx hb dX12_feed_62 (lv_at hl 0 rfl) ?_
  refine lv_iconst (v := 4) hx hb dX12_feed_64 (by decide) ?_
  refine lv_idiv hx hb dX12_feed_65 (by decide) ?_
  refine gz_topi (y := 3) (by decide) ?_
  refine va_iald hx hb hK hP 2 1 rfl rfl (by unfold vp_in; decide) dX12_feed_66 ?_
  refine lv_topi (fun x_75 ex_75 => ?_)
  refine lv_bipush (v := 24) hx hb dX12_feed_67 (by decide) ?_
  refine lv_bipush (v := 8) hx hb dX12_feed_69 (by decide) ?_
  refine lv_iload hx hb dX12_feed_71 (lv_at hl 0 rfl) ?_
  refine lv_iconst (v := 4) hx hb dX12_feed_73 (by decide) ?_
  refine lv_irem hx hb dX12_feed_74 (by decide) ?_
  refine gz_topi (y := 1) (by decide) ?_
  refine lv_imul hx hb dX12_feed_75 ?_
  refine gz_topi (y := 8) (by decide) ?_
  refine lv_isub hx hb dX12_feed_76 ?_
  refine gz_topi (y := 16) (by decide) ?_
  refine lv_iushr hx hb dX12_feed_77 rfl ?_
  refine lv_topi (fun x_76 ex_76 => ?_)
  refine lv_sipush (v := 255) hx hb dX12_feed_78 (by decide) ?_
  refine lv_iand hx hb dX12_feed_81 ?_
  refine lv_topi (fun x_77 ex_77 => ?_)
  refine va_iast hx hb hK hP hD hS 1 0 rfl rfl (by unfold vp_in; decide) dX12_feed_82 (fun H locs hP hD hS => ?_)
  have hP : va_P (dC, dI) vwCl [(h0, .inr (12, fsM r)), ((r 13), .inl ((kf 13), 1600, .inl (upd f_73 (13 : Int32).toNatClampNeg x_77))), (q_2, .inl (k_3, 5, .inl f_8))] H := hP
  have hD : va_D A [(h0, .inr (12, fsM r)), ((r 13), .inl ((kf 13), 1600, .inl (upd f_73 (13 : Int32).toNatClampNeg x_77))), (q_2, .inl (k_3, 5, .inl f_8))] := hD
  generalize upd f_73 (13 : Int32).toNatClampNeg x_77 = f_78 at hP hD
  refine lv_iinc (v := 14) (lv' := [(7, .int 14), (6, .ref q_2), (0, .ref h0), (1, .int p0), (2, .int p1), (3, .int p2), (4, .int p3), (5, .int p4)]) hx hb dX12_feed_83 hl (k := 0) rfl (by decide) (by decide) rfl (fun ls hl => ?_)
  refine lv_goto (tgt := 42) hx hb dX12_feed_86 (by decide) ?_
  refine lv_iload hx hb dX12_feed_42 (lv_at hl 0 rfl) ?_
  refine lv_bipush (v := 20) hx hb dX12_feed_44 (by decide) ?_
  refine lv_icmp_ge (tgt := 89) hx hb dX12_feed_46 (by decide) (fun c_79 => absurd c_79 (by decide)) (fun c_79 => ?_)
  refine lv_aload_n hx hb dX12_feed_49 rfl (lv_at hl 2 rfl) ?_
  refine va_get (D := (dC, dI)) (ci := 12) (v := .ref (r 13)) (C := RX12) (T := TX12) (N := 57) hx hb hts (fun w h => List.mem_cons_of_mem _ (jnGB_X12 w h)) hown hK hP 0 rfl rfl 25 (by decide) (hts _ (List.mem_cons_of_mem _ mGB_52)) (fun _ h9 => h9) rfl dX12_feed_50 ?_
  refine lv_aload_n hx hb dX12_feed_53 rfl (lv_at hl 2 rfl) ?_
  refine va_get (D := (dC, dI)) (ci := 12) (v := .int 0) (C := RX12) (T := TX12) (N := 57) hx hb hts (fun w h => List.mem_cons_of_mem _ (jnGB_X12 w h)) hown hK hP 0 rfl rfl 26 (by decide) (hts _ (List.mem_cons_of_mem _ mGB_30)) (fun _ h9 => h9) rfl dX12_feed_54 ?_
  refine lv_iload hx hb dX12_feed_57 (lv_at hl 0 rfl) ?_
  refine lv_iadd hx hb dX12_feed_59 ?_
  refine gz_topi (y := 14) (by decide) ?_
  refine lv_aload hx hb dX12_feed_60 (lv_at hl 1 rfl) ?_
  refine lv_iload hx hb dX12_feed_62 (lv_at hl 0 rfl) ?_
  refine lv_iconst (v := 4) hx hb dX12_feed_64 (by decide) ?_
  refine lv_idiv hx hb dX12_feed_65 (by decide) ?_
  refine gz_topi (y := 3) (by decide) ?_
  refine va_iald hx hb hK hP 2 1 rfl rfl (by unfold vp_in; decide) dX12_feed_66 ?_
  refine lv_topi (fun x_80 ex_80 => ?_)
  refine lv_bipush (v := 24) hx hb dX12_feed_67 (by decide) ?_
  refine lv_bipush (v := 8) hx hb dX12_feed_69 (by decide) ?_
  refine lv_iload hx hb dX12_feed_71 (lv_at hl 0 rfl) ?_
  refine lv_iconst (v := 4) hx hb dX12_feed_73 (by decide) ?_
  refine lv_irem hx hb dX12_feed_74 (by decide) ?_
  refine gz_topi (y := 2) (by decide) ?_
  refine lv_imul hx hb dX12_feed_75 ?_
  refine gz_topi (y := 16) (by decide) ?_
  refine lv_isub hx hb dX12_feed_76 ?_
  refine gz_topi (y := 8) (by decide) ?_
  refine lv_iushr hx hb dX12_feed_77 rfl ?_
  refine lv_topi (fun x_81 ex_81 => ?_)
  refine lv_sipush (v := 255) hx hb dX12_feed_78 (by decide) ?_
  refine lv_iand hx hb dX12_feed_81 ?_
  refine lv_topi (fun x_82 ex_82 => ?_)
  refine va_iast hx hb hK hP hD hS 1 0 rfl rfl (by unfold vp_in; decide) dX12_feed_82 (fun H locs hP hD hS => ?_)
  have hP : va_P (dC, dI) vwCl [(h0, .inr (12, fsM r)), ((r 13), .inl ((kf 13), 1600, .inl (upd f_78 (14 : Int32).toNatClampNeg x_82))), (q_2, .inl (k_3, 5, .inl f_8))] H := hP
  have hD : va_D A [(h0, .inr (12, fsM r)), ((r 13), .inl ((kf 13), 1600, .inl (upd f_78 (14 : Int32).toNatClampNeg x_82))), (q_2, .inl (k_3, 5, .inl f_8))] := hD
  generalize upd f_78 (14 : Int32).toNatClampNeg x_82 = f_83 at hP hD
  refine lv_iinc (v := 15) (lv' := [(7, .int 15), (6, .ref q_2), (0, .ref h0), (1, .int p0), (2, .int p1), (3, .int p2), (4, .int p3), (5, .int p4)]) hx hb dX12_feed_83 hl (k := 0) rfl (by decide) (by decide) rfl (fun ls hl => ?_)
  refine lv_goto (tgt := 42) hx hb dX12_feed_86 (by decide) ?_
  refine lv_iload hx hb dX12_feed_42 (lv_at hl 0 rfl) ?_
  refine lv_bipush (v := 20) hx hb dX12_feed_44 (by decide) ?_
  refine lv_icmp_ge (tgt := 89) hx hb dX12_feed_46 (by decide) (fun c_84 => absurd c_84 (by decide)) (fun c_84 => ?_)
  refine lv_aload_n hx hb dX12_feed_49 rfl (lv_at hl 2 rfl) ?_
  refine va_get (D := (dC, dI)) (ci := 12) (v := .ref (r 13)) (C := RX12) (T := TX12) (N := 57) hx hb hts (fun w h => List.mem_cons_of_mem _ (jnGB_X12 w h)) hown hK hP 0 rfl rfl 25 (by decide) (hts _ (List.mem_cons_of_mem _ mGB_52)) (fun _ h9 => h9) rfl dX12_feed_50 ?_
  refine lv_aload_n hx hb dX12_feed_53 rfl (lv_at hl 2 rfl) ?_
  refine va_get (D := (dC, dI)) (ci := 12) (v := .int 0) (C := RX12) (T := TX12) (N := 57) hx hb hts (fun w h => List.mem_cons_of_mem _ (jnGB_X12 w h)) hown hK hP 0 rfl rfl 26 (by decide) (hts _ (List.mem_cons_of_mem _ mGB_30)) (fun _ h9 => h9) rfl dX12_feed_54 ?_
  refine lv_iload hx hb dX12_feed_57 (lv_at hl 0 rfl) ?_
  refine lv_iadd hx hb dX12_feed_59 ?_
  refine gz_topi (y := 15) (by decide) ?_
  refine lv_aload hx hb dX12_feed_60 (lv_at hl 1 rfl) ?_
  refine lv_iload hx hb dX12_feed_62 (lv_at hl 0 rfl) ?_
  refine lv_iconst (v := 4) hx hb dX12_feed_64 (by decide) ?_
  refine lv_idiv hx hb dX12_feed_65 (by decide) ?_
  refine gz_topi (y := 3) (by decide) ?_
  refine va_iald hx hb hK hP 2 1 rfl rfl (by unfold vp_in; decide) dX12_feed_66 ?_
  refine lv_topi (fun x_85 ex_85 => ?_)
  refine lv_bipush (v := 24) hx hb dX12_feed_67 (by decide) ?_
  refine lv_bipush (v := 8) hx hb dX12_feed_69 (by decide) ?_
  refine lv_iload hx hb dX12_feed_71 (lv_at hl 0 rfl) ?_
  refine lv_iconst (v := 4) hx hb dX12_feed_73 (by decide) ?_
  refine lv_irem hx hb dX12_feed_74 (by decide) ?_
  refine gz_topi (y := 3) (by decide) ?_
  refine lv_imul hx hb dX12_feed_75 ?_
  refine gz_topi (y := 24) (by decide) ?_
  refine lv_isub hx hb dX12_feed_76 ?_
  refine gz_topi (y := 0) (by decide) ?_
  refine lv_iushr hx hb dX12_feed_77 rfl ?_
  refine lv_topi (fun x_86 ex_86 => ?_)
  refine lv_sipush (v := 255) hx hb dX12_feed_78 (by decide) ?_
  refine lv_iand hx hb dX12_feed_81 ?_
  refine lv_topi (fun x_87 ex_87 => ?_)
  refine va_iast hx hb hK hP hD hS 1 0 rfl rfl (by unfold vp_in; decide) dX12_feed_82 (fun H locs hP hD hS => ?_)
  have hP : va_P (dC, dI) vwCl [(h0, .inr (12, fsM r)), ((r 13), .inl ((kf 13), 1600, .inl (upd f_83 (15 : Int32).toNatClampNeg x_87))), (q_2, .inl (k_3, 5, .inl f_8))] H := hP
  have hD : va_D A [(h0, .inr (12, fsM r)), ((r 13), .inl ((kf 13), 1600, .inl (upd f_83 (15 : Int32).toNatClampNeg x_87))), (q_2, .inl (k_3, 5, .inl f_8))] := hD
  generalize upd f_83 (15 : Int32).toNatClampNeg x_87 = f_88 at hP hD
  refine lv_iinc (v := 16) (lv' := [(7, .int 16), (6, .ref q_2), (0, .ref h0), (1, .int p0), (2, .int p1), (3, .int p2), (4, .int p3), (5, .int p4)]) hx hb dX12_feed_83 hl (k := 0) rfl (by decide) (by decide) rfl (fun ls hl => ?_)
  refine lv_goto (tgt := 42) hx hb dX12_feed_86 (by decide) ?_
  refine lv_iload hx hb dX12_feed_42 (lv_at hl 0 rfl) ?_
  refine lv_bipush (v := 20) hx hb dX12_feed_44 (by decide) ?_
  refine lv_icmp_ge (tgt := 89) hx hb dX12_feed_46 (by decide) (fun c_89 => absurd c_89 (by decide)) (fun c_89 => ?_)
  refine lv_aload_n hx hb dX12_feed_49 rfl (lv_at hl 2 rfl) ?_
  refine va_get (D := (dC, dI)) (ci := 12) (v := .ref (r 13)) (C := RX12) (T := TX12) (N := 57) hx hb hts (fun w h => List.mem_cons_of_mem _ (jnGB_X12 w h)) hown hK hP 0 rfl rfl 25 (by decide) (hts _ (List.mem_cons_of_mem _ mGB_52)) (fun _ h9 => h9) rfl dX12_feed_50 ?_
  refine lv_aload_n hx hb dX12_feed_53 rfl (lv_at hl 2 rfl) ?_
  refine va_get (D := (dC, dI)) (ci := 12) (v := .int 0) (C := RX12) (T := TX12) (N := 57) hx hb hts (fun w h => List.mem_cons_of_mem _ (jnGB_X12 w h)) hown hK hP 0 rfl rfl 26 (by decide) (hts _ (List.mem_cons_of_mem _ mGB_30)) (fun _ h9 => h9) rfl dX12_feed_54 ?_
  refine lv_iload hx hb dX12_feed_57 (lv_at hl 0 rfl) ?_
  refine lv_iadd hx hb dX12_feed_59 ?_
  refine gz_topi (y := 16) (by decide) ?_
  refine lv_aload hx hb dX12_feed_60 (lv_at hl 1 rfl) ?_
  refine lv_iload hx hb dX12_feed_62 (lv_at hl 0 rfl) ?_
  refine lv_iconst (v := 4) hx hb dX12_feed_64 (by decide) ?_
  refine lv_idiv hx hb dX12_feed_65 (by decide) ?_
  refine gz_topi (y := 4) (by decide) ?_
  refine va_iald hx hb hK hP 2 1 rfl rfl (by unfold vp_in; decide) dX12_feed_66 ?_
  refine lv_topi (fun x_90 ex_90 => ?_)
  refine lv_bipush (v := 24) hx hb dX12_feed_67 (by decide) ?_
  refine lv_bipush (v := 8) hx hb dX12_feed_69 (by decide) ?_
  refine lv_iload hx hb dX12_feed_71 (lv_at hl 0 rfl) ?_
  refine lv_iconst (v := 4) hx hb dX12_feed_73 (by decide) ?_
  refine lv_irem hx hb dX12_feed_74 (by decide) ?_
  refine gz_topi (y := 0) (by decide) ?_
  refine lv_imul hx hb dX12_feed_75 ?_
  refine gz_topi (y := 0) (by decide) ?_
  refine lv_isub hx hb dX12_feed_76 ?_
  refine gz_topi (y := 24) (by decide) ?_
  refine lv_iushr hx hb dX12_feed_77 rfl ?_
  refine lv_topi (fun x_91 ex_91 => ?_)
  refine lv_sipush (v := 255) hx hb dX12_feed_78 (by decide) ?_
  refine lv_iand hx hb dX12_feed_81 ?_
  refine lv_topi (fun x_92 ex_92 => ?_)
  refine va_iast hx hb hK hP hD hS 1 0 rfl rfl (by unfold vp_in; decide) dX12_feed_82 (fun H locs hP hD hS => ?_)
  have hP : va_P (dC, dI) vwCl [(h0, .inr (12, fsM r)), ((r 13), .inl ((kf 13), 1600, .inl (upd f_88 (16 : Int32).toNatClampNeg x_92))), (q_2, .inl (k_3, 5, .inl f_8))] H := hP
  have hD : va_D A [(h0, .inr (12, fsM r)), ((r 13), .inl ((kf 13), 1600, .inl (upd f_88 (16 : Int32).toNatClampNeg x_92))), (q_2, .inl (k_3, 5, .inl f_8))] := hD
  generalize upd f_88 (16 : Int32).toNatClampNeg x_92 = f_93 at hP hD
  refine lv_iinc (v := 17) (lv' := [(7, .int 17), (6, .ref q_2), (0, .ref h0), (1, .int p0), (2, .int p1), (3, .int p2), (4, .int p3), (5, .int p4)]) hx hb dX12_feed_83 hl (k := 0) rfl (by decide) (by decide) rfl (fun ls hl => ?_)
  refine lv_goto (tgt := 42) hx hb dX12_feed_86 (by decide) ?_
  refine lv_iload hx hb dX12_feed_42 (lv_at hl 0 rfl) ?_
  refine lv_bipush (v := 20) hx hb dX12_feed_44 (by decide) ?_
  refine lv_icmp_ge (tgt := 89) hx hb dX12_feed_46 (by decide) (fun c_94 => absurd c_94 (by decide)) (fun c_94 => ?_)
  refine lv_aload_n hx hb dX12_feed_49 rfl (lv_at hl 2 rfl) ?_
  refine va_get (D := (dC, dI)) (ci := 12) (v := .ref (r 13)) (C := RX12) (T := TX12) (N := 57) hx hb hts (fun w h => List.mem_cons_of_mem _ (jnGB_X12 w h)) hown hK hP 0 rfl rfl 25 (by decide) (hts _ (List.mem_cons_of_mem _ mGB_52)) (fun _ h9 => h9) rfl dX12_feed_50 ?_
  refine lv_aload_n hx hb dX12_feed_53 rfl (lv_at hl 2 rfl) ?_
  refine va_get (D := (dC, dI)) (ci := 12) (v := .int 0) (C := RX12) (T := TX12) (N := 57) hx hb hts (fun w h => List.mem_cons_of_mem _ (jnGB_X12 w h)) hown hK hP 0 rfl rfl 26 (by decide) (hts _ (List.mem_cons_of_mem _ mGB_30)) (fun _ h9 => h9) rfl dX12_feed_54 ?_
  refine lv_iload hx hb dX12_feed_57 (lv_at hl 0 rfl) ?_
  refine lv_iadd hx hb dX12_feed_59 ?_
  refine gz_topi (y := 17) (by decide) ?_
  refine lv_aload hx hb dX12_feed_60 (lv_at hl 1 rfl) ?_
  refine lv_iload hx hb dX12_feed_62 (lv_at hl 0 rfl) ?_
  refine lv_iconst (v := 4) hx hb dX12_feed_64 (by decide) ?_
  refine lv_idiv hx hb dX12_feed_65 (by decide) ?_
  refine gz_topi (y := 4) (by decide) ?_
  refine va_iald hx hb hK hP 2 1 rfl rfl (by unfold vp_in; decide) dX12_feed_66 ?_
  refine lv_topi (fun x_95 ex_95 => ?_)
  refine lv_bipush (v := 24) hx hb dX12_feed_67 (by decide) ?_
  refine lv_bipush (v := 8) hx hb dX12_feed_69 (by decide) ?_
  refine lv_iload hx hb dX12_feed_71 (lv_at hl 0 rfl) ?_
  refine lv_iconst (v := 4) hx hb dX12_feed_73 (by decide) ?_
  refine lv_irem hx hb dX12_feed_74 (by decide) ?_
  refine gz_topi (y := 1) (by decide) ?_
  refine lv_imul hx hb dX12_feed_75 ?_
  refine gz_topi (y := 8) (by decide) ?_
  refine lv_isub hx hb dX12_feed_76 ?_
  refine gz_topi (y := 16) (by decide) ?_
  refine lv_iushr hx hb dX12_feed_77 rfl ?_
  refine lv_topi (fun x_96 ex_96 => ?_)
  refine lv_sipush (v := 255) hx hb dX12_feed_78 (by decide) ?_
  refine lv_iand hx hb dX12_feed_81 ?_
  refine lv_topi (fun x_97 ex_97 => ?_)
  refine va_iast hx hb hK hP hD hS 1 0 rfl rfl (by unfold vp_in; decide) dX12_feed_82 (fun H locs hP hD hS => ?_)
  have hP : va_P (dC, dI) vwCl [(h0, .inr (12, fsM r)), ((r 13), .inl ((kf 13), 1600, .inl (upd f_93 (17 : Int32).toNatClampNeg x_97))), (q_2, .inl (k_3, 5, .inl f_8))] H := hP
  have hD : va_D A [(h0, .inr (12, fsM r)), ((r 13), .inl ((kf 13), 1600, .inl (upd f_93 (17 : Int32).toNatClampNeg x_97))), (q_2, .inl (k_3, 5, .inl f_8))] := hD
  generalize upd f_93 (17 : Int32).toNatClampNeg x_97 = f_98 at hP hD
  refine lv_iinc (v := 18) (lv' := [(7, .int 18), (6, .ref q_2), (0, .ref h0), (1, .int p0), (2, .int p1), (3, .int p2), (4, .int p3), (5, .int p4)]) hx hb dX12_feed_83 hl (k := 0) rfl (by decide) (by decide) rfl (fun ls hl => ?_)
  refine lv_goto (tgt := 42) hx hb dX12_feed_86 (by decide) ?_
  refine lv_iload hx hb dX12_feed_42 (lv_at hl 0 rfl) ?_
  refine lv_bipush (v := 20) hx hb dX12_feed_44 (by decide) ?_
  refine lv_icmp_ge (tgt := 89) hx hb dX12_feed_46 (by decide) (fun c_99 => absurd c_99 (by decide)) (fun c_99 => ?_)
  refine lv_aload_n hx hb dX12_feed_49 rfl (lv_at hl 2 rfl) ?_
  refine va_get (D := (dC, dI)) (ci := 12) (v := .ref (r 13)) (C := RX12) (T := TX12) (N := 57) hx hb hts (fun w h => List.mem_cons_of_mem _ (jnGB_X12 w h)) hown hK hP 0 rfl rfl 25 (by decide) (hts _ (List.mem_cons_of_mem _ mGB_52)) (fun _ h9 => h9) rfl dX12_feed_50 ?_
  refine lv_aload_n hx hb dX12_feed_53 rfl (lv_at hl 2 rfl) ?_
  refine va_get (D := (dC, dI)) (ci := 12) (v := .int 0) (C := RX12) (T := TX12) (N := 57) hx hb hts (fun w h => List.mem_cons_of_mem _ (jnGB_X12 w h)) hown hK hP 0 rfl rfl 26 (by decide) (hts _ (List.mem_cons_of_mem _ mGB_30)) (fun _ h9 => h9) rfl dX12_feed_54 ?_
  refine lv_iload hx hb dX12_feed_57 (lv_at hl 0 rfl) ?_
  refine lv_iadd hx hb dX12_feed_59 ?_
  refine gz_topi (y := 18) (by decide) ?_
  refine lv_aload hx hb dX12_feed_60 (lv_at hl 1 rfl) ?_
  refine lv_iload hx hb dX12_feed_62 (lv_at hl 0 rfl) ?_
  refine lv_iconst (v := 4) hx hb dX12_feed_64 (by decide) ?_
  refine lv_idiv hx hb dX12_feed_65 (by decide) ?_
  refine gz_topi (y := 4) (by decide) ?_
  refine va_iald hx hb hK hP 2 1 rfl rfl (by unfold vp_in; decide) dX12_feed_66 ?_
  refine lv_topi (fun x_100 ex_100 => ?_)
  refine lv_bipush (v := 24) hx hb dX12_feed_67 (by decide) ?_
  refine lv_bipush (v := 8) hx hb dX12_feed_69 (by decide) ?_
  refine lv_iload hx hb dX12_feed_71 (lv_at hl 0 rfl) ?_
  refine lv_iconst (v := 4) hx hb dX12_feed_73 (by decide) ?_
  refine lv_irem hx hb dX12_feed_74 (by decide) ?_
  refine gz_topi (y := 2) (by decide) ?_
  refine lv_imul hx hb dX12_feed_75 ?_
  refine gz_topi (y := 16) (by decide) ?_
  refine lv_isub hx hb dX12_feed_76 ?_
  refine gz_topi (y := 8) (by decide) ?_
  refine lv_iushr hx hb dX12_feed_77 rfl ?_
  refine lv_topi (fun x_101 ex_101 => ?_)
  refine lv_sipush (v := 255) hx hb dX12_feed_78 (by decide) ?_
  refine lv_iand hx hb dX12_feed_81 ?_
  refine lv_topi (fun x_102 ex_102 => ?_)
  refine va_iast hx hb hK hP hD hS 1 0 rfl rfl (by unfold vp_in; decide) dX12_feed_82 (fun H locs hP hD hS => ?_)
  have hP : va_P (dC, dI) vwCl [(h0, .inr (12, fsM r)), ((r 13), .inl ((kf 13), 1600, .inl (upd f_98 (18 : Int32).toNatClampNeg x_102))), (q_2, .inl (k_3, 5, .inl f_8))] H := hP
  have hD : va_D A [(h0, .inr (12, fsM r)), ((r 13), .inl ((kf 13), 1600, .inl (upd f_98 (18 : Int32).toNatClampNeg x_102))), (q_2, .inl (k_3, 5, .inl f_8))] := hD
  generalize upd f_98 (18 : Int32).toNatClampNeg x_102 = f_103 at hP hD
  refine lv_iinc (v := 19) (lv' := [(7, .int 19), (6, .ref q_2), (0, .ref h0), (1, .int p0), (2, .int p1), (3, .int p2), (4, .int p3), (5, .int p4)]) hx hb dX12_feed_83 hl (k := 0) rfl (by decide) (by decide) rfl (fun ls hl => ?_)
  refine lv_goto (tgt := 42) hx hb dX12_feed_86 (by decide) ?_
  refine lv_iload hx hb dX12_feed_42 (lv_at hl 0 rfl) ?_
  refine lv_bipush (v := 20) hx hb dX12_feed_44 (by decide) ?_
  refine lv_icmp_ge (tgt := 89) hx hb dX12_feed_46 (by decide) (fun c_104 => absurd c_104 (by decide)) (fun c_104 => ?_)
  refine lv_aload_n hx hb dX12_feed_49 rfl (lv_at hl 2 rfl) ?_
  refine va_get (D := (dC, dI)) (ci := 12) (v := .ref (r 13)) (C := RX12) (T := TX12) (N := 57) hx hb hts (fun w h => List.mem_cons_of_mem _ (jnGB_X12 w h)) hown hK hP 0 rfl rfl 25 (by decide) (hts _ (List.mem_cons_of_mem _ mGB_52)) (fun _ h9 => h9) rfl dX12_feed_50 ?_
  refine lv_aload_n hx hb dX12_feed_53 rfl (lv_at hl 2 rfl) ?_
  refine va_get (D := (dC, dI)) (ci := 12) (v := .int 0) (C := RX12) (T := TX12) (N := 57) hx hb hts (fun w h => List.mem_cons_of_mem _ (jnGB_X12 w h)) hown hK hP 0 rfl rfl 26 (by decide) (hts _ (List.mem_cons_of_mem _ mGB_30)) (fun _ h9 => h9) rfl dX12_feed_54 ?_
  refine lv_iload hx hb dX12_feed_57 (lv_at hl 0 rfl) ?_
  refine lv_iadd hx hb dX12_feed_59 ?_
  refine gz_topi (y := 19) (by decide) ?_
  refine lv_aload hx hb dX12_feed_60 (lv_at hl 1 rfl) ?_
  refine lv_iload hx hb dX12_feed_62 (lv_at hl 0 rfl) ?_
  refine lv_iconst (v := 4) hx hb dX12_feed_64 (by decide) ?_
  refine lv_idiv hx hb dX12_feed_65 (by decide) ?_
  refine gz_topi (y := 4) (by decide) ?_
  refine va_iald hx hb hK hP 2 1 rfl rfl (by unfold vp_in; decide) dX12_feed_66 ?_
  refine lv_topi (fun x_105 ex_105 => ?_)
  refine lv_bipush (v := 24) hx hb dX12_feed_67 (by decide) ?_
  refine lv_bipush (v := 8) hx hb dX12_feed_69 (by decide) ?_
  refine lv_iload hx hb dX12_feed_71 (lv_at hl 0 rfl) ?_
  refine lv_iconst (v := 4) hx hb dX12_feed_73 (by decide) ?_
  refine lv_irem hx hb dX12_feed_74 (by decide) ?_
  refine gz_topi (y := 3) (by decide) ?_
  refine lv_imul hx hb dX12_feed_75 ?_
  refine gz_topi (y := 24) (by decide) ?_
  refine lv_isub hx hb dX12_feed_76 ?_
  refine gz_topi (y := 0) (by decide) ?_
  refine lv_iushr hx hb dX12_feed_77 rfl ?_
  refine lv_topi (fun x_106 ex_106 => ?_)
  refine lv_sipush (v := 255) hx hb dX12_feed_78 (by decide) ?_
  refine lv_iand hx hb dX12_feed_81 ?_
  refine lv_topi (fun x_107 ex_107 => ?_)
  refine va_iast hx hb hK hP hD hS 1 0 rfl rfl (by unfold vp_in; decide) dX12_feed_82 (fun H locs hP hD hS => ?_)
  have hP : va_P (dC, dI) vwCl [(h0, .inr (12, fsM r)), ((r 13), .inl ((kf 13), 1600, .inl (upd f_103 (19 : Int32).toNatClampNeg x_107))), (q_2, .inl (k_3, 5, .inl f_8))] H := hP
  have hD : va_D A [(h0, .inr (12, fsM r)), ((r 13), .inl ((kf 13), 1600, .inl (upd f_103 (19 : Int32).toNatClampNeg x_107))), (q_2, .inl (k_3, 5, .inl f_8))] := hD
  generalize upd f_103 (19 : Int32).toNatClampNeg x_107 = f_108 at hP hD
  refine lv_iinc (v := 20) (lv' := [(7, .int 20), (6, .ref q_2), (0, .ref h0), (1, .int p0), (2, .int p1), (3, .int p2), (4, .int p3), (5, .int p4)]) hx hb dX12_feed_83 hl (k := 0) rfl (by decide) (by decide) rfl (fun ls hl => ?_)
  refine lv_goto (tgt := 42) hx hb dX12_feed_86 (by decide) ?_
  refine lv_iload hx hb dX12_feed_42 (lv_at hl 0 rfl) ?_
  refine lv_bipush (v := 20) hx hb dX12_feed_44 (by decide) ?_
  refine lv_icmp_ge (tgt := 89) hx hb dX12_feed_46 (by decide) (fun c_109 => ?_) (fun c_109 => absurd (by decide) c_109)
  refine lv_aload_n hx hb dX12_feed_89 rfl (lv_at hl 2 rfl) ?_
  refine lv_dup hx hb dX12_feed_90 rfl ?_
  refine va_get (D := (dC, dI)) (ci := 12) (v := .int 0) (C := RX12) (T := TX12) (N := 57) hx hb hts (fun w h => List.mem_cons_of_mem _ (jnGB_X12 w h)) hown hK hP 0 rfl rfl 26 (by decide) (hts _ (List.mem_cons_of_mem _ mGB_30)) (fun _ h9 => h9) rfl dX12_feed_91 ?_
  refine lv_bipush (v := 20) hx hb dX12_feed_94 (by decide) ?_
  refine lv_iadd hx hb dX12_feed_96 ?_
  refine gz_topi (y := 20) (by decide) ?_
  refine va_put (D := (dC, dI)) (ci := 12) (v := .int 20) (ty := .int) (C := RX12) (T := TX12) (N := 57) hx hb hts (fun w h => List.mem_cons_of_mem _ (jnGB_X12 w h)) tyX12 tyX12_ok nmX12 hown hK hP hD hS 0 rfl rfl 26 (by decide) (hts _ (List.mem_cons_of_mem _ mGB_30)) (fun _ h9 => h9) rfl (by decide +kernel) rfl rfl (Nat.le_of_ble_eq_true rfl) dX12_feed_97 (fun H locs hP hD hS => ?_)
  have hP : va_P (dC, dI) vwCl [(h0, .inr (12, [.int 0, .int 0, .int 0, .int 0, .int 0, .int 0, .int 0, .int 0, .ref (r 0), .ref (r 1), .int 0, .ref (r 2), .ref (r 3), .ref (r 4), .ref (r 5), .ref (r 6), .ref (r 7), .int 0, .ref (r 8), .ref (r 9), .ref (r 10), .ref (r 11), .ref (r 12), .int 0, .int 0, .ref (r 13), .int 20, .int 0, .int (-1), .int 0, .int 0, .int 0, .int 0, .int 0, .ref (r 14), .ref (r 15), .ref (r 16), .int 0, .ref (r 17), .ref (r 18), .ref (r 19), .int 0, .int (-1), .int (-1), .int (-1), .int (-1), .ref (r 20), .int 0, .int 0, .int 0, .int 0, .int 0, .ref (r 21), .ref (r 22), .int 0, .ref (r 23), .int 0])), ((r 13), .inl ((kf 13), 1600, .inl f_108)), (q_2, .inl (k_3, 5, .inl f_8))] H := hP
  have hD : va_D A [(h0, .inr (12, [.int 0, .int 0, .int 0, .int 0, .int 0, .int 0, .int 0, .int 0, .ref (r 0), .ref (r 1), .int 0, .ref (r 2), .ref (r 3), .ref (r 4), .ref (r 5), .ref (r 6), .ref (r 7), .int 0, .ref (r 8), .ref (r 9), .ref (r 10), .ref (r 11), .ref (r 12), .int 0, .int 0, .ref (r 13), .int 20, .int 0, .int (-1), .int 0, .int 0, .int 0, .int 0, .int 0, .ref (r 14), .ref (r 15), .ref (r 16), .int 0, .ref (r 17), .ref (r 18), .ref (r 19), .int 0, .int (-1), .int (-1), .int (-1), .int (-1), .ref (r 20), .int 0, .int 0, .int 0, .int 0, .int 0, .ref (r 21), .ref (r 22), .int 0, .ref (r 23), .int 0])), ((r 13), .inl ((kf 13), 1600, .inl f_108)), (q_2, .inl (k_3, 5, .inl f_8))] := hD
  refine lv_aload_n hx hb dX12_feed_100 rfl (lv_at hl 2 rfl) ?_
  refine va_get (D := (dC, dI)) (ci := 12) (v := .int 20) (C := RX12) (T := TX12) (N := 57) hx hb hts (fun w h => List.mem_cons_of_mem _ (jnGB_X12 w h)) hown hK hP 0 rfl rfl 26 (by decide) (hts _ (List.mem_cons_of_mem _ mGB_30)) (fun _ h9 => h9) rfl dX12_feed_101 ?_
  refine W.widen (k := 1) (n := 5) (Nat.le_of_ble_eq_true rfl) (Nat.le_of_ble_eq_true rfl) ?_
  exact W.iret (v := 20) hx hb hr (fun t ht hW => ⟨⟨20, (), rfl, rfl, trivial⟩, hS.F ht⟩) hS.2.2 dX12_feed_104
end
section
theorem dX12_moves_0 : decode cX12_moves 0 = .ok (.aload_n 0, 1) := by decide +kernel
theorem dX12_moves_1 : decode cX12_moves 1 = .ok (.getfield 106, 3) := by decide +kernel
theorem dX12_moves_4 : decode cX12_moves 4 = .ok (.ifCond .eq 7, 3) := by decide +kernel
theorem dX12_moves_7 : decode cX12_moves 7 = .ok (.iload_n 1, 1) := by decide +kernel
theorem dX12_moves_8 : decode cX12_moves 8 = .ok (.goto 12, 3) := by decide +kernel
theorem dX12_moves_20 : decode cX12_moves 20 = .ok (.istore_n 2, 1) := by decide +kernel
theorem dX12_moves_21 : decode cX12_moves 21 = .ok (.aload_n 0, 1) := by decide +kernel
theorem dX12_moves_22 : decode cX12_moves 22 = .ok (.getfield 47, 3) := by decide +kernel
theorem dX12_moves_25 : decode cX12_moves 25 = .ok (.aload_n 0, 1) := by decide +kernel
theorem dX12_moves_26 : decode cX12_moves 26 = .ok (.getfield 110, 3) := by decide +kernel
theorem dX12_moves_29 : decode cX12_moves 29 = .ok (.iload_n 2, 1) := by decide +kernel
theorem dX12_moves_30 : decode cX12_moves 30 = .ok (.iastore, 1) := by decide +kernel
theorem dX12_moves_31 : decode cX12_moves 31 = .ok (.aload_n 0, 1) := by decide +kernel
theorem dX12_moves_32 : decode cX12_moves 32 = .ok (.dup, 1) := by decide +kernel
theorem dX12_moves_33 : decode cX12_moves 33 = .ok (.getfield 110, 3) := by decide +kernel
theorem dX12_moves_36 : decode cX12_moves 36 = .ok (.iconst 1, 1) := by decide +kernel
theorem dX12_moves_37 : decode cX12_moves 37 = .ok (.iadd, 1) := by decide +kernel
theorem dX12_moves_38 : decode cX12_moves 38 = .ok (.putfield 110, 3) := by decide +kernel
theorem dX12_moves_41 : decode cX12_moves 41 = .ok (.iload_n 2, 1) := by decide +kernel
theorem dX12_moves_42 : decode cX12_moves 42 = .ok (.ireturn, 1) := by decide +kernel
set_option maxHeartbeats 4000000 in
set_option maxRecDepth 100000 in
theorem fX12_moves (l : Launch) (dC : Nat → ClassId) (dI : Nat → Nat → Nat) (sz : Nat) (h0 : Nat) (r : Nat → Nat) (kf : Nat → ClassId) (a : Nat) (f : Nat → Int32) (p0 : Int32) (ha : a < 300) : Met l yX12_moves (.code yX12_moves cX12_moves 3 (some .int) :: wsGB) ({ frames := 0, cells := 0, slots := 0, locals := 0 }) (va_Pc [.ref h0, .int p0] (fun U => U.heap.size = sz ∧ va_P (dC, dI) vwCl [(h0, .inr (12, fsMk r (nI a) 1)), ((r 12), .inl ((kf 12), 300, .inl f))] U.heap ∧ va_K (dC, dI) vwCl [((kf 12), .int)] U ∧ va_D (fun _ => True) [(h0, .inr (12, fsMk r (nI a) 1)), ((r 12), .inl ((kf 12), 300, .inl f))])) (va_Qi (fun (r : Int32) (u : Unit) => r = p0) (fun _ t => ∃ (g : Nat → Int32), va_P (dC, dI) vwCl [(h0, .inr (12, fsMk r (nI (a + 1)) 1)), ((r 12), .inl ((kf 12), 300, .inl g))] t.heap ∧ va_K (dC, dI) vwCl [((kf 12), .int)] t ∧ va_D (va_A [(h0, .inr (12, fsMk r (nI a) 1)), ((r 12), .inl ((kf 12), 300, .inl f))] sz) [(h0, .inr (12, fsMk r (nI (a + 1)) 1)), ((r 12), .inl ((kf 12), 300, .inl g))]) (va_A [(h0, .inr (12, fsMk r (nI a) 1)), ((r 12), .inl ((kf 12), 300, .inl f))] sz)) 0 0 (va_A [(h0, .inr (12, fsMk r (nI a) 1)), ((r 12), .inl ((kf 12), 300, .inl f))] sz) := by
  refine Met.ofW (cc := cX12_moves) (maxL := 3) (ret := (some .int)) (by decide) rfl ?_
  intro p e s m args below meth c s₁ B hml hv
  obtain ⟨rfl, hsz, hP, hK, hD0⟩ := hv
  have hx := B.exec
  have hb := B.bytes
  have hr := B.returns
  have hts := atoms_spec (ws := (.code yX12_moves cX12_moves 3 (some .int) :: wsGB)) B.pre
  have hown : s.vm.findClass RX12 = some m.cls := findClass_of_methodNamed B.named
  have hlocks := B.notSynchronized
  subst hsz
  have hD := hD0.self (sz := s.heap.size)
  generalize hAe : va_A [(h0, .inr (12, fsMk r (nI a) 1)), ((r 12), .inl ((kf 12), 300, .inl f))] s.heap.size = A at hD ⊢
  have hA : ∀ q : Nat, s.heap.size ≤ q → A q := fun q h => by rw [← hAe]; exact Or.inr h
  have hS : va_S A s.heap s.heap [] := va_S.rf
  have hl := lv_entry ([.ref h0, .int p0]) (n := 3) (Nat.le_of_ble_eq_true rfl)
  rw [lg_entry_eq]
  generalize (lg_sl ([.ref h0, .int p0]) ++ List.replicate (3 - (lg_sl ([.ref h0, .int p0])).length) Slot.unset).toArray = ls at hl ⊢
  have hl : lv_has ls 3 [(0, .ref h0), (1, .int p0)] := hl
  refine lv_aload_n hx hb dX12_moves_0 rfl (lv_at hl 0 rfl) ?_
  refine va_get (D := (dC, dI)) (ci := 12) (v := .int 1) (C := RX12) (T := TX12) (N := 57) hx hb hts (fun w h => List.mem_cons_of_mem _ (jnGB_X12 w h)) hown hK hP 0 rfl rfl 24 (by decide) (hts _ (List.mem_cons_of_mem _ mGB_67)) (fun _ h9 => h9) rfl dX12_moves_1 ?_
  refine lv_if_eq (tgt := 11) hx hb dX12_moves_4 (by decide) (fun c_1 => absurd c_1 (by decide)) (fun c_1 => ?_)
  refine lv_iload_n hx hb dX12_moves_7 rfl (lv_at hl 1 rfl) ?_
  refine lv_goto (tgt := 20) hx hb dX12_moves_8 (by decide) ?_
  refine lv_istore_n (lv' := [(2, .int p0), (0, .ref h0), (1, .int p0)]) hx hb dX12_moves_20 rfl hl (by decide) rfl (fun ls hl => ?_)
  refine lv_aload_n hx hb dX12_moves_21 rfl (lv_at hl 1 rfl) ?_
  refine va_get (D := (dC, dI)) (ci := 12) (v := .ref (r 12)) (C := RX12) (T := TX12) (N := 57) hx hb hts (fun w h => List.mem_cons_of_mem _ (jnGB_X12 w h)) hown hK hP 0 rfl rfl 22 (by decide) (hts _ (List.mem_cons_of_mem _ mGB_51)) (fun _ h9 => h9) rfl dX12_moves_22 ?_
  refine lv_aload_n hx hb dX12_moves_25 rfl (lv_at hl 1 rfl) ?_
  refine va_get (D := (dC, dI)) (ci := 12) (v := .int (nI a)) (C := RX12) (T := TX12) (N := 57) hx hb hts (fun w h => List.mem_cons_of_mem _ (jnGB_X12 w h)) hown hK hP 0 rfl rfl 23 (by decide) (hts _ (List.mem_cons_of_mem _ mGB_68)) (fun _ h9 => h9) rfl dX12_moves_26 ?_
  refine lv_iload_n hx hb dX12_moves_29 rfl (lv_at hl 0 rfl) ?_
  refine va_iast hx hb hK hP hD hS 1 0 rfl rfl (vp_in_nI ha (by decide)) dX12_moves_30 (fun H locs hP hD hS => ?_)
  have hP : va_P (dC, dI) vwCl [(h0, .inr (12, fsMk r (nI a) 1)), ((r 12), .inl ((kf 12), 300, .inl (upd f (nI a : Int32).toNatClampNeg p0)))] H := hP
  have hD : va_D A [(h0, .inr (12, fsMk r (nI a) 1)), ((r 12), .inl ((kf 12), 300, .inl (upd f (nI a : Int32).toNatClampNeg p0)))] := hD
  generalize upd f (nI a : Int32).toNatClampNeg p0 = f_2 at hP hD
  refine lv_aload_n hx hb dX12_moves_31 rfl (lv_at hl 1 rfl) ?_
  refine lv_dup hx hb dX12_moves_32 rfl ?_
  refine va_get (D := (dC, dI)) (ci := 12) (v := .int (nI a)) (C := RX12) (T := TX12) (N := 57) hx hb hts (fun w h => List.mem_cons_of_mem _ (jnGB_X12 w h)) hown hK hP 0 rfl rfl 23 (by decide) (hts _ (List.mem_cons_of_mem _ mGB_68)) (fun _ h9 => h9) rfl dX12_moves_33 ?_
  refine lv_iconst (v := 1) hx hb dX12_moves_36 (by decide) ?_
  refine lv_iadd hx hb dX12_moves_37 ?_
  refine gz_topi (y := nI (a + 1)) (nI_1 a) ?_
  refine va_put (D := (dC, dI)) (ci := 12) (v := .int (nI (a + 1))) (ty := .int) (C := RX12) (T := TX12) (N := 57) hx hb hts (fun w h => List.mem_cons_of_mem _ (jnGB_X12 w h)) tyX12 tyX12_ok nmX12 hown hK hP hD hS 0 rfl rfl 23 (by decide) (hts _ (List.mem_cons_of_mem _ mGB_68)) (fun _ h9 => h9) rfl (by decide +kernel) rfl rfl (Nat.le_of_ble_eq_true rfl) dX12_moves_38 (fun H locs hP hD hS => ?_)
  have hP : va_P (dC, dI) vwCl [(h0, .inr (12, [.int 0, .int 0, .int 0, .int 0, .int 0, .int 0, .int 0, .int 0, .ref (r 0), .ref (r 1), .int 0, .ref (r 2), .ref (r 3), .ref (r 4), .ref (r 5), .ref (r 6), .ref (r 7), .int 0, .ref (r 8), .ref (r 9), .ref (r 10), .ref (r 11), .ref (r 12), .int (nI (a + 1)), .int 1, .ref (r 13), .int 0, .int 0, .int (-1), .int 0, .int 0, .int 0, .int 0, .int 0, .ref (r 14), .ref (r 15), .ref (r 16), .int 0, .ref (r 17), .ref (r 18), .ref (r 19), .int 0, .int (-1), .int (-1), .int (-1), .int (-1), .ref (r 20), .int 0, .int 0, .int 0, .int 0, .int 0, .ref (r 21), .ref (r 22), .int 0, .ref (r 23), .int 0])), ((r 12), .inl ((kf 12), 300, .inl f_2))] H := hP
  have hD : va_D A [(h0, .inr (12, [.int 0, .int 0, .int 0, .int 0, .int 0, .int 0, .int 0, .int 0, .ref (r 0), .ref (r 1), .int 0, .ref (r 2), .ref (r 3), .ref (r 4), .ref (r 5), .ref (r 6), .ref (r 7), .int 0, .ref (r 8), .ref (r 9), .ref (r 10), .ref (r 11), .ref (r 12), .int (nI (a + 1)), .int 1, .ref (r 13), .int 0, .int 0, .int (-1), .int 0, .int 0, .int 0, .int 0, .int 0, .ref (r 14), .ref (r 15), .ref (r 16), .int 0, .ref (r 17), .ref (r 18), .ref (r 19), .int 0, .int (-1), .int (-1), .int (-1), .int (-1), .ref (r 20), .int 0, .int 0, .int 0, .int 0, .int 0, .ref (r 21), .ref (r 22), .int 0, .ref (r 23), .int 0])), ((r 12), .inl ((kf 12), 300, .inl f_2))] := hD
  refine lv_iload_n hx hb dX12_moves_41 rfl (lv_at hl 0 rfl) ?_
  have hP9 := hP.sub (ws' := [(h0, .inr (12, [.int 0, .int 0, .int 0, .int 0, .int 0, .int 0, .int 0, .int 0, .ref (r 0), .ref (r 1), .int 0, .ref (r 2), .ref (r 3), .ref (r 4), .ref (r 5), .ref (r 6), .ref (r 7), .int 0, .ref (r 8), .ref (r 9), .ref (r 10), .ref (r 11), .ref (r 12), .int (nI (a + 1)), .int 1, .ref (r 13), .int 0, .int 0, .int (-1), .int 0, .int 0, .int 0, .int 0, .int 0, .ref (r 14), .ref (r 15), .ref (r 16), .int 0, .ref (r 17), .ref (r 18), .ref (r 19), .int 0, .int (-1), .int (-1), .int (-1), .int (-1), .ref (r 20), .int 0, .int 0, .int 0, .int 0, .int 0, .ref (r 21), .ref (r 22), .int 0, .ref (r 23), .int 0])), ((r 12), .inl ((kf 12), 300, .inl f_2))]) [0, 1] rfl
  have hD9 := hD.sub (ws' := [(h0, .inr (12, [.int 0, .int 0, .int 0, .int 0, .int 0, .int 0, .int 0, .int 0, .ref (r 0), .ref (r 1), .int 0, .ref (r 2), .ref (r 3), .ref (r 4), .ref (r 5), .ref (r 6), .ref (r 7), .int 0, .ref (r 8), .ref (r 9), .ref (r 10), .ref (r 11), .ref (r 12), .int (nI (a + 1)), .int 1, .ref (r 13), .int 0, .int 0, .int (-1), .int 0, .int 0, .int 0, .int 0, .int 0, .ref (r 14), .ref (r 15), .ref (r 16), .int 0, .ref (r 17), .ref (r 18), .ref (r 19), .int 0, .int (-1), .int (-1), .int (-1), .int (-1), .ref (r 20), .int 0, .int 0, .int 0, .int 0, .int 0, .ref (r 21), .ref (r 22), .int 0, .ref (r 23), .int 0])), ((r 12), .inl ((kf 12), 300, .inl f_2))]) [0, 1] (by decide) rfl
  have hK9 := hK.sub (tys' := [((kf 12), .int)]) [0] rfl
  refine W.widen (k := 0) (n := 0) (Nat.le_of_ble_eq_true rfl) (Nat.le_of_ble_eq_true rfl) ?_
  exact W.iret (v := p0) hx hb hr (fun t ht hW => ⟨⟨p0, (), rfl, rfl, f_2, by rw [ht]; exact hP9, va_K.moved hW.alike hK9, hD9⟩, hS.F ht⟩) hS.2.2 dX12_moves_42
theorem dX12_movesRow_0 : decode cX12_movesRow 0 = .ok (.iconst 0, 1) := by decide +kernel
theorem dX12_movesRow_1 : decode cX12_movesRow 1 = .ok (.istore_n 2, 1) := by decide +kernel
theorem dX12_movesRow_2 : decode cX12_movesRow 2 = .ok (.iload_n 2, 1) := by decide +kernel
theorem dX12_movesRow_3 : decode cX12_movesRow 3 = .ok (.aload_n 1, 1) := by decide +kernel
theorem dX12_movesRow_4 : decode cX12_movesRow 4 = .ok (.arraylength, 1) := by decide +kernel
theorem dX12_movesRow_5 : decode cX12_movesRow 5 = .ok (.if_icmp .ge 19, 3) := by decide +kernel
theorem dX12_movesRow_8 : decode cX12_movesRow 8 = .ok (.aload_n 1, 1) := by decide +kernel
theorem dX12_movesRow_9 : decode cX12_movesRow 9 = .ok (.iload_n 2, 1) := by decide +kernel
theorem dX12_movesRow_10 : decode cX12_movesRow 10 = .ok (.aload_n 0, 1) := by decide +kernel
theorem dX12_movesRow_11 : decode cX12_movesRow 11 = .ok (.aload_n 1, 1) := by decide +kernel
theorem dX12_movesRow_12 : decode cX12_movesRow 12 = .ok (.iload_n 2, 1) := by decide +kernel
theorem dX12_movesRow_13 : decode cX12_movesRow 13 = .ok (.iaload, 1) := by decide +kernel
theorem dX12_movesRow_14 : decode cX12_movesRow 14 = .ok (.invokevirtual 113, 3) := by decide +kernel
theorem dX12_movesRow_17 : decode cX12_movesRow 17 = .ok (.iastore, 1) := by decide +kernel
theorem dX12_movesRow_18 : decode cX12_movesRow 18 = .ok (.iinc 2 1, 3) := by decide +kernel
theorem dX12_movesRow_21 : decode cX12_movesRow 21 = .ok (.goto (-19), 3) := by decide +kernel
theorem dX12_movesRow_24 : decode cX12_movesRow 24 = .ok (.return_, 1) := by decide +kernel
set_option maxHeartbeats 4000000 in
set_option maxRecDepth 100000 in
theorem lpX12_movesRow {p : Program} {l : Launch} {e : Env} {R : Room} {s : State} {m : MethodId} {args : Array Value} {below : List Frame} {meth : Method} {c : Code} {Q : State → Prop} {A : Nat → Prop} {cells slots : Nat} {dC : Nat → ClassId} {dI : Nat → Nat → Nat} {h0 q n a : Nat} {r : Nat → Nat} {kf : Nat → ClassId} {k2 : ClassId} (hx : p.tables.exec = Jvm.exec) (hb : c.code = cX12_movesRow) (hml : c.maxLocals = 3) (hown : s.vm.findClass RX12 = some m.cls) (hts : ∀ w ∈ ((.code yX12_movesRow cX12_movesRow 3 none :: wsGB) : List Cond), w.before args s = true) (hA : ∀ q : Nat, s.heap.size ≤ q → A q) (hRf : 1 ≤ R.frames) (hRl : 22 ≤ R.locals) (hRc : cells ≤ R.cells) (hRs : slots ≤ R.slots) (han : a + n ≤ 300) (kk : ∀ (f g : Nat → Int32) (H : Heap) (locs : List Loc) (ls : Array Slot), va_K (dC, dI) vwCl [((kf 12), .int), (k2, .int)] s → va_P (dC, dI) vwCl [(h0, .inr (12, fsMk r (nI (a + n)) 1)), ((r 12), .inl ((kf 12), 300, .inl f)), (q, .inl (k2, n, .inl g))] H → va_D A [(h0, .inr (12, fsMk r (nI (a + n)) 1)), ((r 12), .inl ((kf 12), 300, .inl f)), (q, .inl (k2, n, .inl g))] → va_S A s.heap H locs → lv_has ls 3 [(0, .ref h0), (1, .ref q), (2, .int (nI n))] → W p l e R s m args below meth c H locs cells slots Q (F0 m 24 ls [])) : ∀ (z k : Nat) (f g : Nat → Int32), k ≤ n → n < k + z → ∀ (H : Heap) (locs : List Loc) (ls : Array Slot), va_K (dC, dI) vwCl [((kf 12), .int), (k2, .int)] s → va_P (dC, dI) vwCl [(h0, .inr (12, fsMk r (nI (a + k)) 1)), ((r 12), .inl ((kf 12), 300, .inl f)), (q, .inl (k2, n, .inl g))] H → va_D A [(h0, .inr (12, fsMk r (nI (a + k)) 1)), ((r 12), .inl ((kf 12), 300, .inl f)), (q, .inl (k2, n, .inl g))] → va_S A s.heap H locs → lv_has ls 3 [(0, .ref h0), (1, .ref q), (2, .int (nI k))] → W p l e R s m args below meth c H locs cells slots Q (F0 m 2 ls []) := by
  intro z
  induction z with
  | zero =>
    intro k f g h1 h2
    exact absurd h2 (by omega)
  | succ z ih =>
    intro k f g hk hz H locs ls hK hP hD hS hl
    refine lv_iload_n hx hb dX12_movesRow_2 rfl (lv_at hl 2 rfl) ?_
    refine lv_aload_n hx hb dX12_movesRow_3 rfl (lv_at hl 1 rfl) ?_
    refine va_alen (v := nI n) hx hb hK hP 2 1 rfl rfl rfl dX12_movesRow_4 ?_
    refine lv_icmp_ge (tgt := 24) hx hb dX12_movesRow_5 (by decide) (fun c_1 => ?_) (fun c_1 => ?_)
    · have hkn : k = n := Nat.le_antisymm hk ((nI_leI (by omega) (by omega)).mp c_1)
      subst hkn
      exact kk f g _ _ _ hK hP hD hS hl
    · have hkn : k < n := Nat.lt_of_not_le (fun q => c_1 (nI_le q (by omega)))
      refine lv_aload_n hx hb dX12_movesRow_8 rfl (lv_at hl 1 rfl) ?_
      refine lv_iload_n hx hb dX12_movesRow_9 rfl (lv_at hl 2 rfl) ?_
      refine lv_aload_n hx hb dX12_movesRow_10 rfl (lv_at hl 0 rfl) ?_
      refine lv_aload_n hx hb dX12_movesRow_11 rfl (lv_at hl 1 rfl) ?_
      refine lv_iload_n hx hb dX12_movesRow_12 rfl (lv_at hl 2 rfl) ?_
      refine va_iald hx hb hK hP 2 1 rfl rfl (vp_in_nI hkn (by omega)) dX12_movesRow_13 ?_
      refine lv_topi (fun x_2 ex_2 => ?_)
      have hPc := hP.sub (ws' := [(h0, .inr (12, fsMk r (nI (a + k)) 1)), ((r 12), .inl ((kf 12), 300, .inl f))]) [0, 1] rfl
      have hDc := hD.sub (ws' := [(h0, .inr (12, fsMk r (nI (a + k)) 1)), ((r 12), .inl ((kf 12), 300, .inl f))]) [0, 1] (by decide) rfl
      have hKc := hK.sub (tys' := [((kf 12), .int)]) [0] rfl
      have hFc := va_free (wc := [(h0, .inr (12, fsMk r (nI (a + k)) 1)), ((r 12), .inl ((kf 12), 300, .inl f))]) hD hS hA [0, 1] rfl
      refine va_calli (va_runV (As := [.int x_2]) (rest := [.int (nI k), .ref q]) ⟨hx, hb, hml, hown, hts⟩ (fX12_moves l dC dI H.size h0 r kf (a + k) f x_2 (by omega)) (cwV 1 hts (gz_gV mGB_70 mGB_71 mGB_72 mGB_5 mGB_69 goodGB) rfl rfl rfl (by decide +kernel) ⟨Nat.le_trans (Nat.le_of_ble_eq_true rfl) hRf, Nat.le_trans (Nat.le_of_ble_eq_true rfl) hRl⟩) ⟨fun a U g mk q => by obtain ⟨q0, q1, qP, qK, qD⟩ := q; exact ⟨q0, q1, qP, va_K.moved (u := U) (U := U.calling g mk a) (Vm.Alike.refl U.vm) qK, qD⟩, va_recv hKc hPc (ci := 12) (q0 := 0) rfl rfl, fun U hU hW => ⟨rfl, by rw [hU], by rw [hU]; exact hPc, va_K.moved hW.alike hKc, hDc.weaken (fun _ _ _ _ => trivial)⟩⟩ rfl rfl hl.1 rfl (lv_room (Nat.le_of_ble_eq_true rfl)) dX12_movesRow_14 ⟨hRc, hRs⟩) hS (fun q _ h => hFc q h) hFc (fun r_4 u t H1 locs ht hvm hw hB hz1 hk1 hS => ?_)
      obtain ⟨f_3, hP1, hK1, hD1⟩ := hB
      rw [ht] at hP1
      have hK1 := va_K.moved hvm.symm hK1
      obtain ⟨hP, hD⟩ := va_join (wr := [(q, .inl (k2, n, .inl g))]) (w1 := [(h0, .inr (12, fsMk r (nI (a + k + 1)) 1)), ((r 12), .inl ((kf 12), 300, .inl f_3))]) hP hD [0, 1] [2] rfl rfl (by decide) (by decide) hk1 hFc hP1 hD1
      generalize H1 = H at hP hS ⊢
      have hP : va_P (dC, dI) vwCl [(q, .inl (k2, n, .inl g)), (h0, .inr (12, fsMk r (nI (a + k + 1)) 1)), ((r 12), .inl ((kf 12), 300, .inl f_3))] H := hP
      have hD : va_D A [(q, .inl (k2, n, .inl g)), (h0, .inr (12, fsMk r (nI (a + k + 1)) 1)), ((r 12), .inl ((kf 12), 300, .inl f_3))] := hD
      have hP : va_P (dC, dI) vwCl [(q, .inl (k2, n, .inl g)), (h0, .inr (12, fsMk r (nI (a + k + 1)) 1)), ((r 12), .inl ((kf 12), 300, .inl f_3))] H := hP
      have hD : va_D A [(q, .inl (k2, n, .inl g)), (h0, .inr (12, fsMk r (nI (a + k + 1)) 1)), ((r 12), .inl ((kf 12), 300, .inl f_3))] := hD
      refine va_iast hx hb hK hP hD hS 0 1 rfl rfl (vp_in_nI hkn (by omega)) dX12_movesRow_17 (fun H locs hP hD hS => ?_)
      have hP : va_P (dC, dI) vwCl [(q, .inl (k2, n, .inl (upd g (nI k : Int32).toNatClampNeg r_4))), (h0, .inr (12, fsMk r (nI (a + k + 1)) 1)), ((r 12), .inl ((kf 12), 300, .inl f_3))] H := hP
      have hD : va_D A [(q, .inl (k2, n, .inl (upd g (nI k : Int32).toNatClampNeg r_4))), (h0, .inr (12, fsMk r (nI (a + k + 1)) 1)), ((r 12), .inl ((kf 12), 300, .inl f_3))] := hD
      generalize upd g (nI k : Int32).toNatClampNeg r_4 = f_5 at hP hD
      refine lv_iinc (v := nI (k + 1)) (lv' := [(2, .int (nI (k + 1))), (0, .ref h0), (1, .ref q)]) hx hb dX12_movesRow_18 hl (k := 2) rfl (nI_1 k) (by decide) rfl (fun ls hl => ?_)
      refine lv_goto (tgt := 2) hx hb dX12_movesRow_21 (by decide) ?_
      exact ih (k + 1) f_3 f_5 (by omega) (by omega) _ _ _ hK (hP.sub [1, 2, 0] rfl) (hD.sub [1, 2, 0] (by decide) rfl) hS (lv_sub hl [1, 2, 0] rfl)
set_option maxHeartbeats 4000000 in
set_option maxRecDepth 100000 in
theorem fX12_movesRow (l : Launch) (dC : Nat → ClassId) (dI : Nat → Nat → Nat) (sz : Nat) (h0 : Nat) (r : Nat → Nat) (kf : Nat → ClassId) (q : Nat) (k2 : ClassId) (n : Nat) (a : Nat) (f : Nat → Int32) (g : Nat → Int32) (han : a + n ≤ 300) : Met l yX12_movesRow (.code yX12_movesRow cX12_movesRow 3 none :: wsGB) ({ frames := 1, cells := 0, slots := 0, locals := 22 }) (va_Pc [.ref h0, .ref q] (fun U => U.heap.size = sz ∧ va_P (dC, dI) vwCl [(h0, .inr (12, fsMk r (nI a) 1)), ((r 12), .inl ((kf 12), 300, .inl f)), (q, .inl (k2, n, .inl g))] U.heap ∧ va_K (dC, dI) vwCl [((kf 12), .int), (k2, .int)] U ∧ va_D (fun _ => True) [(h0, .inr (12, fsMk r (nI a) 1)), ((r 12), .inl ((kf 12), 300, .inl f)), (q, .inl (k2, n, .inl g))])) (va_Qv (fun (u : Unit) => True) (fun _ t => ∃ (f9 : Nat → Int32) (g9 : Nat → Int32), va_P (dC, dI) vwCl [(h0, .inr (12, fsMk r (nI (a + n)) 1)), ((r 12), .inl ((kf 12), 300, .inl f9)), (q, .inl (k2, n, .inl g9))] t.heap ∧ va_K (dC, dI) vwCl [((kf 12), .int), (k2, .int)] t ∧ va_D (va_A [(h0, .inr (12, fsMk r (nI a) 1)), ((r 12), .inl ((kf 12), 300, .inl f)), (q, .inl (k2, n, .inl g))] sz) [(h0, .inr (12, fsMk r (nI (a + n)) 1)), ((r 12), .inl ((kf 12), 300, .inl f9)), (q, .inl (k2, n, .inl g9))]) (va_A [(h0, .inr (12, fsMk r (nI a) 1)), ((r 12), .inl ((kf 12), 300, .inl f)), (q, .inl (k2, n, .inl g))] sz)) 0 0 (va_A [(h0, .inr (12, fsMk r (nI a) 1)), ((r 12), .inl ((kf 12), 300, .inl f)), (q, .inl (k2, n, .inl g))] sz) := by
  refine Met.ofW (cc := cX12_movesRow) (maxL := 3) (ret := none) (by decide) rfl ?_
  intro p e s m args below meth c s₁ B hml hv
  obtain ⟨rfl, hsz, hP, hK, hD0⟩ := hv
  have hx := B.exec
  have hb := B.bytes
  have hr := B.returns
  have hts := atoms_spec (ws := (.code yX12_movesRow cX12_movesRow 3 none :: wsGB)) B.pre
  have hown : s.vm.findClass RX12 = some m.cls := findClass_of_methodNamed B.named
  have hlocks := B.notSynchronized
  subst hsz
  have hD := hD0.self (sz := s.heap.size)
  generalize hAe : va_A [(h0, .inr (12, fsMk r (nI a) 1)), ((r 12), .inl ((kf 12), 300, .inl f)), (q, .inl (k2, n, .inl g))] s.heap.size = A at hD ⊢
  have hA : ∀ q : Nat, s.heap.size ≤ q → A q := fun q h => by rw [← hAe]; exact Or.inr h
  have hS : va_S A s.heap s.heap [] := va_S.rf
  have hl := lv_entry ([.ref h0, .ref q]) (n := 3) (Nat.le_of_ble_eq_true rfl)
  rw [lg_entry_eq]
  generalize (lg_sl ([.ref h0, .ref q]) ++ List.replicate (3 - (lg_sl ([.ref h0, .ref q])).length) Slot.unset).toArray = ls at hl ⊢
  have hl : lv_has ls 3 [(0, .ref h0), (1, .ref q)] := hl
  refine lv_iconst (v := 0) hx hb dX12_movesRow_0 (by decide) ?_
  refine lv_istore_n (lv' := [(2, .int 0), (0, .ref h0), (1, .ref q)]) hx hb dX12_movesRow_1 rfl hl (by decide) rfl (fun ls hl => ?_)
  refine lpX12_movesRow (h0 := h0) (q := q) (n := n) (a := a) (r := r) (kf := kf) (k2 := k2) hx hb hml hown hts hA (Nat.le_of_ble_eq_true rfl) (Nat.le_of_ble_eq_true rfl) (Nat.zero_le _) (Nat.zero_le _) han (fun f9 g9 H locs ls hK hP hD hS hl => ?_) (n + 1) 0 f g (Nat.zero_le n) (by omega) _ _ _ hK hP hD hS (lv_sub hl [1, 2, 0] rfl)
  have hP9 := hP.sub (ws' := [(h0, .inr (12, fsMk r (nI (a + n)) 1)), ((r 12), .inl ((kf 12), 300, .inl f9)), (q, .inl (k2, n, .inl g9))]) [0, 1, 2] rfl
  have hD9 := hD.sub (ws' := [(h0, .inr (12, fsMk r (nI (a + n)) 1)), ((r 12), .inl ((kf 12), 300, .inl f9)), (q, .inl (k2, n, .inl g9))]) [0, 1, 2] (by decide) rfl
  have hK9 := hK.sub (tys' := [((kf 12), .int), (k2, .int)]) [0, 1] rfl
  exact W.vret hx hb hr (fun t ht hW => ⟨⟨(), rfl, trivial, f9, g9, by rw [ht]; exact hP9, va_K.moved hW.alike hK9, hD9⟩, hS.F ht⟩) hS.2.2 dX12_movesRow_24
end
section
theorem dX12_movesAll_0 : decode cX12_movesAll 0 = .ok (.aload_n 0, 1) := by decide +kernel
theorem dX12_movesAll_1 : decode cX12_movesAll 1 = .ok (.iload_n 1, 1) := by decide +kernel
theorem dX12_movesAll_2 : decode cX12_movesAll 2 = .ok (.putfield 106, 3) := by decide +kernel
theorem dX12_movesAll_5 : decode cX12_movesAll 5 = .ok (.aload_n 0, 1) := by decide +kernel
theorem dX12_movesAll_6 : decode cX12_movesAll 6 = .ok (.iconst 0, 1) := by decide +kernel
theorem dX12_movesAll_7 : decode cX12_movesAll 7 = .ok (.putfield 110, 3) := by decide +kernel
theorem dX12_movesAll_10 : decode cX12_movesAll 10 = .ok (.aload_n 0, 1) := by decide +kernel
theorem dX12_movesAll_11 : decode cX12_movesAll 11 = .ok (.aload_n 0, 1) := by decide +kernel
theorem dX12_movesAll_12 : decode cX12_movesAll 12 = .ok (.aload_n 0, 1) := by decide +kernel
theorem dX12_movesAll_13 : decode cX12_movesAll 13 = .ok (.getfield 117, 3) := by decide +kernel
theorem dX12_movesAll_16 : decode cX12_movesAll 16 = .ok (.invokevirtual 113, 3) := by decide +kernel
theorem dX12_movesAll_19 : decode cX12_movesAll 19 = .ok (.putfield 117, 3) := by decide +kernel
theorem dX12_movesAll_22 : decode cX12_movesAll 22 = .ok (.aload_n 0, 1) := by decide +kernel
theorem dX12_movesAll_23 : decode cX12_movesAll 23 = .ok (.aload_n 0, 1) := by decide +kernel
theorem dX12_movesAll_24 : decode cX12_movesAll 24 = .ok (.aload_n 0, 1) := by decide +kernel
theorem dX12_movesAll_25 : decode cX12_movesAll 25 = .ok (.getfield 120, 3) := by decide +kernel
theorem dX12_movesAll_28 : decode cX12_movesAll 28 = .ok (.invokevirtual 113, 3) := by decide +kernel
theorem dX12_movesAll_31 : decode cX12_movesAll 31 = .ok (.putfield 120, 3) := by decide +kernel
theorem dX12_movesAll_34 : decode cX12_movesAll 34 = .ok (.aload_n 0, 1) := by decide +kernel
theorem dX12_movesAll_35 : decode cX12_movesAll 35 = .ok (.aload_n 0, 1) := by decide +kernel
theorem dX12_movesAll_36 : decode cX12_movesAll 36 = .ok (.aload_n 0, 1) := by decide +kernel
theorem dX12_movesAll_37 : decode cX12_movesAll 37 = .ok (.getfield 123, 3) := by decide +kernel
theorem dX12_movesAll_40 : decode cX12_movesAll 40 = .ok (.invokevirtual 113, 3) := by decide +kernel
theorem dX12_movesAll_43 : decode cX12_movesAll 43 = .ok (.putfield 123, 3) := by decide +kernel
theorem dX12_movesAll_46 : decode cX12_movesAll 46 = .ok (.aload_n 0, 1) := by decide +kernel
theorem dX12_movesAll_47 : decode cX12_movesAll 47 = .ok (.aload_n 0, 1) := by decide +kernel
theorem dX12_movesAll_48 : decode cX12_movesAll 48 = .ok (.aload_n 0, 1) := by decide +kernel
theorem dX12_movesAll_49 : decode cX12_movesAll 49 = .ok (.getfield 126, 3) := by decide +kernel
theorem dX12_movesAll_52 : decode cX12_movesAll 52 = .ok (.invokevirtual 113, 3) := by decide +kernel
theorem dX12_movesAll_55 : decode cX12_movesAll 55 = .ok (.putfield 126, 3) := by decide +kernel
theorem dX12_movesAll_58 : decode cX12_movesAll 58 = .ok (.aload_n 0, 1) := by decide +kernel
theorem dX12_movesAll_59 : decode cX12_movesAll 59 = .ok (.aload_n 0, 1) := by decide +kernel
theorem dX12_movesAll_60 : decode cX12_movesAll 60 = .ok (.aload_n 0, 1) := by decide +kernel
theorem dX12_movesAll_61 : decode cX12_movesAll 61 = .ok (.getfield 129, 3) := by decide +kernel
theorem dX12_movesAll_64 : decode cX12_movesAll 64 = .ok (.ifCond .eq 7, 3) := by decide +kernel
theorem dX12_movesAll_71 : decode cX12_movesAll 71 = .ok (.iconst 0, 1) := by decide +kernel
theorem dX12_movesAll_72 : decode cX12_movesAll 72 = .ok (.invokevirtual 113, 3) := by decide +kernel
theorem dX12_movesAll_75 : decode cX12_movesAll 75 = .ok (.iconst 1, 1) := by decide +kernel
theorem dX12_movesAll_76 : decode cX12_movesAll 76 = .ok (.if_icmp .ne 7, 3) := by decide +kernel
theorem dX12_movesAll_83 : decode cX12_movesAll 83 = .ok (.iconst 0, 1) := by decide +kernel
theorem dX12_movesAll_84 : decode cX12_movesAll 84 = .ok (.putfield 129, 3) := by decide +kernel
theorem dX12_movesAll_87 : decode cX12_movesAll 87 = .ok (.aload_n 0, 1) := by decide +kernel
theorem dX12_movesAll_88 : decode cX12_movesAll 88 = .ok (.aload_n 0, 1) := by decide +kernel
theorem dX12_movesAll_89 : decode cX12_movesAll 89 = .ok (.aload_n 0, 1) := by decide +kernel
theorem dX12_movesAll_90 : decode cX12_movesAll 90 = .ok (.getfield 132, 3) := by decide +kernel
theorem dX12_movesAll_93 : decode cX12_movesAll 93 = .ok (.invokevirtual 113, 3) := by decide +kernel
theorem dX12_movesAll_96 : decode cX12_movesAll 96 = .ok (.putfield 132, 3) := by decide +kernel
theorem dX12_movesAll_99 : decode cX12_movesAll 99 = .ok (.aload_n 0, 1) := by decide +kernel
theorem dX12_movesAll_100 : decode cX12_movesAll 100 = .ok (.aload_n 0, 1) := by decide +kernel
theorem dX12_movesAll_101 : decode cX12_movesAll 101 = .ok (.aload_n 0, 1) := by decide +kernel
theorem dX12_movesAll_102 : decode cX12_movesAll 102 = .ok (.getfield 135, 3) := by decide +kernel
theorem dX12_movesAll_105 : decode cX12_movesAll 105 = .ok (.invokevirtual 113, 3) := by decide +kernel
theorem dX12_movesAll_108 : decode cX12_movesAll 108 = .ok (.putfield 135, 3) := by decide +kernel
theorem dX12_movesAll_111 : decode cX12_movesAll 111 = .ok (.aload_n 0, 1) := by decide +kernel
theorem dX12_movesAll_112 : decode cX12_movesAll 112 = .ok (.aload_n 0, 1) := by decide +kernel
theorem dX12_movesAll_113 : decode cX12_movesAll 113 = .ok (.aload_n 0, 1) := by decide +kernel
theorem dX12_movesAll_114 : decode cX12_movesAll 114 = .ok (.getfield 138, 3) := by decide +kernel
theorem dX12_movesAll_117 : decode cX12_movesAll 117 = .ok (.invokevirtual 113, 3) := by decide +kernel
theorem dX12_movesAll_120 : decode cX12_movesAll 120 = .ok (.putfield 138, 3) := by decide +kernel
theorem dX12_movesAll_123 : decode cX12_movesAll 123 = .ok (.aload_n 0, 1) := by decide +kernel
theorem dX12_movesAll_124 : decode cX12_movesAll 124 = .ok (.aload_n 0, 1) := by decide +kernel
theorem dX12_movesAll_125 : decode cX12_movesAll 125 = .ok (.aload_n 0, 1) := by decide +kernel
theorem dX12_movesAll_126 : decode cX12_movesAll 126 = .ok (.getfield 141, 3) := by decide +kernel
theorem dX12_movesAll_129 : decode cX12_movesAll 129 = .ok (.invokevirtual 113, 3) := by decide +kernel
theorem dX12_movesAll_132 : decode cX12_movesAll 132 = .ok (.putfield 141, 3) := by decide +kernel
theorem dX12_movesAll_135 : decode cX12_movesAll 135 = .ok (.aload_n 0, 1) := by decide +kernel
theorem dX12_movesAll_136 : decode cX12_movesAll 136 = .ok (.aload_n 0, 1) := by decide +kernel
theorem dX12_movesAll_137 : decode cX12_movesAll 137 = .ok (.aload_n 0, 1) := by decide +kernel
theorem dX12_movesAll_138 : decode cX12_movesAll 138 = .ok (.getfield 144, 3) := by decide +kernel
theorem dX12_movesAll_141 : decode cX12_movesAll 141 = .ok (.invokevirtual 113, 3) := by decide +kernel
theorem dX12_movesAll_144 : decode cX12_movesAll 144 = .ok (.putfield 144, 3) := by decide +kernel
theorem dX12_movesAll_147 : decode cX12_movesAll 147 = .ok (.aload_n 0, 1) := by decide +kernel
theorem dX12_movesAll_148 : decode cX12_movesAll 148 = .ok (.aload_n 0, 1) := by decide +kernel
theorem dX12_movesAll_149 : decode cX12_movesAll 149 = .ok (.getfield 7, 3) := by decide +kernel
theorem dX12_movesAll_152 : decode cX12_movesAll 152 = .ok (.invokevirtual 147, 3) := by decide +kernel
theorem dX12_movesAll_155 : decode cX12_movesAll 155 = .ok (.aload_n 0, 1) := by decide +kernel
theorem dX12_movesAll_156 : decode cX12_movesAll 156 = .ok (.aload_n 0, 1) := by decide +kernel
theorem dX12_movesAll_157 : decode cX12_movesAll 157 = .ok (.getfield 13, 3) := by decide +kernel
theorem dX12_movesAll_160 : decode cX12_movesAll 160 = .ok (.invokevirtual 147, 3) := by decide +kernel
theorem dX12_movesAll_163 : decode cX12_movesAll 163 = .ok (.aload_n 0, 1) := by decide +kernel
theorem dX12_movesAll_164 : decode cX12_movesAll 164 = .ok (.aload_n 0, 1) := by decide +kernel
theorem dX12_movesAll_165 : decode cX12_movesAll 165 = .ok (.getfield 16, 3) := by decide +kernel
theorem dX12_movesAll_168 : decode cX12_movesAll 168 = .ok (.invokevirtual 147, 3) := by decide +kernel
theorem dX12_movesAll_171 : decode cX12_movesAll 171 = .ok (.aload_n 0, 1) := by decide +kernel
theorem dX12_movesAll_172 : decode cX12_movesAll 172 = .ok (.aload_n 0, 1) := by decide +kernel
theorem dX12_movesAll_173 : decode cX12_movesAll 173 = .ok (.getfield 19, 3) := by decide +kernel
theorem dX12_movesAll_176 : decode cX12_movesAll 176 = .ok (.invokevirtual 147, 3) := by decide +kernel
theorem dX12_movesAll_179 : decode cX12_movesAll 179 = .ok (.aload_n 0, 1) := by decide +kernel
theorem dX12_movesAll_180 : decode cX12_movesAll 180 = .ok (.aload_n 0, 1) := by decide +kernel
theorem dX12_movesAll_181 : decode cX12_movesAll 181 = .ok (.getfield 26, 3) := by decide +kernel
theorem dX12_movesAll_184 : decode cX12_movesAll 184 = .ok (.invokevirtual 147, 3) := by decide +kernel
theorem dX12_movesAll_187 : decode cX12_movesAll 187 = .ok (.aload_n 0, 1) := by decide +kernel
theorem dX12_movesAll_188 : decode cX12_movesAll 188 = .ok (.aload_n 0, 1) := by decide +kernel
theorem dX12_movesAll_189 : decode cX12_movesAll 189 = .ok (.getfield 29, 3) := by decide +kernel
theorem dX12_movesAll_192 : decode cX12_movesAll 192 = .ok (.invokevirtual 147, 3) := by decide +kernel
theorem dX12_movesAll_195 : decode cX12_movesAll 195 = .ok (.aload_n 0, 1) := by decide +kernel
theorem dX12_movesAll_196 : decode cX12_movesAll 196 = .ok (.aload_n 0, 1) := by decide +kernel
theorem dX12_movesAll_197 : decode cX12_movesAll 197 = .ok (.getfield 32, 3) := by decide +kernel
theorem dX12_movesAll_200 : decode cX12_movesAll 200 = .ok (.invokevirtual 147, 3) := by decide +kernel
theorem dX12_movesAll_203 : decode cX12_movesAll 203 = .ok (.aload_n 0, 1) := by decide +kernel
theorem dX12_movesAll_204 : decode cX12_movesAll 204 = .ok (.aload_n 0, 1) := by decide +kernel
theorem dX12_movesAll_205 : decode cX12_movesAll 205 = .ok (.getfield 35, 3) := by decide +kernel
theorem dX12_movesAll_208 : decode cX12_movesAll 208 = .ok (.invokevirtual 147, 3) := by decide +kernel
theorem dX12_movesAll_211 : decode cX12_movesAll 211 = .ok (.aload_n 0, 1) := by decide +kernel
theorem dX12_movesAll_212 : decode cX12_movesAll 212 = .ok (.aload_n 0, 1) := by decide +kernel
theorem dX12_movesAll_213 : decode cX12_movesAll 213 = .ok (.getfield 38, 3) := by decide +kernel
theorem dX12_movesAll_216 : decode cX12_movesAll 216 = .ok (.invokevirtual 147, 3) := by decide +kernel
theorem dX12_movesAll_219 : decode cX12_movesAll 219 = .ok (.aload_n 0, 1) := by decide +kernel
theorem dX12_movesAll_220 : decode cX12_movesAll 220 = .ok (.aload_n 0, 1) := by decide +kernel
theorem dX12_movesAll_221 : decode cX12_movesAll 221 = .ok (.getfield 41, 3) := by decide +kernel
theorem dX12_movesAll_224 : decode cX12_movesAll 224 = .ok (.invokevirtual 147, 3) := by decide +kernel
theorem dX12_movesAll_227 : decode cX12_movesAll 227 = .ok (.aload_n 0, 1) := by decide +kernel
theorem dX12_movesAll_228 : decode cX12_movesAll 228 = .ok (.aload_n 0, 1) := by decide +kernel
theorem dX12_movesAll_229 : decode cX12_movesAll 229 = .ok (.getfield 44, 3) := by decide +kernel
theorem dX12_movesAll_232 : decode cX12_movesAll 232 = .ok (.invokevirtual 147, 3) := by decide +kernel
theorem dX12_movesAll_235 : decode cX12_movesAll 235 = .ok (.iconst 0, 1) := by decide +kernel
theorem dX12_movesAll_236 : decode cX12_movesAll 236 = .ok (.istore_n 2, 1) := by decide +kernel
theorem dX12_movesAll_237 : decode cX12_movesAll 237 = .ok (.iload_n 2, 1) := by decide +kernel
theorem dX12_movesAll_238 : decode cX12_movesAll 238 = .ok (.bipush 24, 2) := by decide +kernel
theorem dX12_movesAll_240 : decode cX12_movesAll 240 = .ok (.if_icmp .ge 42, 3) := by decide +kernel
theorem dX12_movesAll_243 : decode cX12_movesAll 243 = .ok (.aload_n 0, 1) := by decide +kernel
theorem dX12_movesAll_244 : decode cX12_movesAll 244 = .ok (.getfield 22, 3) := by decide +kernel
theorem dX12_movesAll_247 : decode cX12_movesAll 247 = .ok (.iload_n 2, 1) := by decide +kernel
theorem dX12_movesAll_248 : decode cX12_movesAll 248 = .ok (.aload_n 0, 1) := by decide +kernel
theorem dX12_movesAll_249 : decode cX12_movesAll 249 = .ok (.aload_n 0, 1) := by decide +kernel
theorem dX12_movesAll_250 : decode cX12_movesAll 250 = .ok (.getfield 22, 3) := by decide +kernel
theorem dX12_movesAll_253 : decode cX12_movesAll 253 = .ok (.iload_n 2, 1) := by decide +kernel
theorem dX12_movesAll_254 : decode cX12_movesAll 254 = .ok (.baload, 1) := by decide +kernel
theorem dX12_movesAll_255 : decode cX12_movesAll 255 = .ok (.ifCond .eq 7, 3) := by decide +kernel
theorem dX12_movesAll_262 : decode cX12_movesAll 262 = .ok (.iconst 0, 1) := by decide +kernel
theorem dX12_movesAll_263 : decode cX12_movesAll 263 = .ok (.invokevirtual 113, 3) := by decide +kernel
theorem dX12_movesAll_266 : decode cX12_movesAll 266 = .ok (.iconst 1, 1) := by decide +kernel
theorem dX12_movesAll_267 : decode cX12_movesAll 267 = .ok (.if_icmp .ne 7, 3) := by decide +kernel
theorem dX12_movesAll_274 : decode cX12_movesAll 274 = .ok (.iconst 0, 1) := by decide +kernel
theorem dX12_movesAll_275 : decode cX12_movesAll 275 = .ok (.bastore, 1) := by decide +kernel
theorem dX12_movesAll_276 : decode cX12_movesAll 276 = .ok (.iinc 2 1, 3) := by decide +kernel
theorem dX12_movesAll_279 : decode cX12_movesAll 279 = .ok (.goto (-42), 3) := by decide +kernel
theorem dX12_movesAll_282 : decode cX12_movesAll 282 = .ok (.return_, 1) := by decide +kernel
set_option maxHeartbeats 4000000 in
set_option maxRecDepth 100000 in
theorem fX12_movesAll (l : Launch) (dC : Nat → ClassId) (dI : Nat → Nat → Nat) (sz : Nat) (h0 : Nat) (r : Nat → Nat) (kf : Nat → ClassId) : Met l yX12_movesAll (.code yX12_movesAll cX12_movesAll 3 none :: wsGB) ({ frames := 2, cells := 0, slots := 0, locals := 44 }) (va_Pc [.ref h0, .int 1] (fun U => U.heap.size = sz ∧ va_P (dC, dI) vwCl [(h0, .inr (12, fsM r)), ((r 0), .inl ((kf 0), 6, .inl (fun _ => 0))), ((r 1), .inl ((kf 1), 36, .inl (fun _ => 0))), ((r 2), .inl ((kf 2), 24, .inl (fun _ => 0))), ((r 3), .inl ((kf 3), 24, .inl (fun _ => 0))), ((r 5), .inl ((kf 5), 24, .inl (fun _ => 0))), ((r 6), .inl ((kf 6), 24, .inl (fun _ => 0))), ((r 7), .inl ((kf 7), 24, .inl (fun _ => 0))), ((r 8), .inl ((kf 8), 8, .inl (fun _ => 0))), ((r 9), .inl ((kf 9), 8, .inl (fun _ => 0))), ((r 10), .inl ((kf 10), 8, .inl (fun _ => 0))), ((r 11), .inl ((kf 11), 8, .inl (fun _ => 0))), ((r 4), .inl ((kf 4), 24, .inl (fun _ => 0))), ((r 12), .inl ((kf 12), 300, .inl (fun _ => 0)))] U.heap ∧ va_K (dC, dI) vwCl [((kf 0), .int), ((kf 1), .int), ((kf 2), .int), ((kf 3), .int), ((kf 5), .int), ((kf 6), .int), ((kf 7), .int), ((kf 8), .int), ((kf 9), .int), ((kf 10), .int), ((kf 11), .int), ((kf 4), .boolean), ((kf 12), .int)] U ∧ va_D (fun _ => True) [(h0, .inr (12, fsM r)), ((r 0), .inl ((kf 0), 6, .inl (fun _ => 0))), ((r 1), .inl ((kf 1), 36, .inl (fun _ => 0))), ((r 2), .inl ((kf 2), 24, .inl (fun _ => 0))), ((r 3), .inl ((kf 3), 24, .inl (fun _ => 0))), ((r 5), .inl ((kf 5), 24, .inl (fun _ => 0))), ((r 6), .inl ((kf 6), 24, .inl (fun _ => 0))), ((r 7), .inl ((kf 7), 24, .inl (fun _ => 0))), ((r 8), .inl ((kf 8), 8, .inl (fun _ => 0))), ((r 9), .inl ((kf 9), 8, .inl (fun _ => 0))), ((r 10), .inl ((kf 10), 8, .inl (fun _ => 0))), ((r 11), .inl ((kf 11), 8, .inl (fun _ => 0))), ((r 4), .inl ((kf 4), 24, .inl (fun _ => 0))), ((r 12), .inl ((kf 12), 300, .inl (fun _ => 0)))])) (va_Qv (fun (u : Unit) => True) (fun _ t => va_P (dC, dI) vwCl [(h0, .inr (12, fsMk r (nI 228) 1))] t.heap ∧ va_K (dC, dI) vwCl [] t ∧ va_D (va_A [(h0, .inr (12, fsM r)), ((r 0), .inl ((kf 0), 6, .inl (fun _ => 0))), ((r 1), .inl ((kf 1), 36, .inl (fun _ => 0))), ((r 2), .inl ((kf 2), 24, .inl (fun _ => 0))), ((r 3), .inl ((kf 3), 24, .inl (fun _ => 0))), ((r 5), .inl ((kf 5), 24, .inl (fun _ => 0))), ((r 6), .inl ((kf 6), 24, .inl (fun _ => 0))), ((r 7), .inl ((kf 7), 24, .inl (fun _ => 0))), ((r 8), .inl ((kf 8), 8, .inl (fun _ => 0))), ((r 9), .inl ((kf 9), 8, .inl (fun _ => 0))), ((r 10), .inl ((kf 10), 8, .inl (fun _ => 0))), ((r 11), .inl ((kf 11), 8, .inl (fun _ => 0))), ((r 4), .inl ((kf 4), 24, .inl (fun _ => 0))), ((r 12), .inl ((kf 12), 300, .inl (fun _ => 0)))] sz) [(h0, .inr (12, fsMk r (nI 228) 1))]) (va_A [(h0, .inr (12, fsM r)), ((r 0), .inl ((kf 0), 6, .inl (fun _ => 0))), ((r 1), .inl ((kf 1), 36, .inl (fun _ => 0))), ((r 2), .inl ((kf 2), 24, .inl (fun _ => 0))), ((r 3), .inl ((kf 3), 24, .inl (fun _ => 0))), ((r 5), .inl ((kf 5), 24, .inl (fun _ => 0))), ((r 6), .inl ((kf 6), 24, .inl (fun _ => 0))), ((r 7), .inl ((kf 7), 24, .inl (fun _ => 0))), ((r 8), .inl ((kf 8), 8, .inl (fun _ => 0))), ((r 9), .inl ((kf 9), 8, .inl (fun _ => 0))), ((r 10), .inl ((kf 10), 8, .inl (fun _ => 0))), ((r 11), .inl ((kf 11), 8, .inl (fun _ => 0))), ((r 4), .inl ((kf 4), 24, .inl (fun _ => 0))), ((r 12), .inl ((kf 12), 300, .inl (fun _ => 0)))] sz)) 0 0 (va_A [(h0, .inr (12, fsM r)), ((r 0), .inl ((kf 0), 6, .inl (fun _ => 0))), ((r 1), .inl ((kf 1), 36, .inl (fun _ => 0))), ((r 2), .inl ((kf 2), 24, .inl (fun _ => 0))), ((r 3), .inl ((kf 3), 24, .inl (fun _ => 0))), ((r 5), .inl ((kf 5), 24, .inl (fun _ => 0))), ((r 6), .inl ((kf 6), 24, .inl (fun _ => 0))), ((r 7), .inl ((kf 7), 24, .inl (fun _ => 0))), ((r 8), .inl ((kf 8), 8, .inl (fun _ => 0))), ((r 9), .inl ((kf 9), 8, .inl (fun _ => 0))), ((r 10), .inl ((kf 10), 8, .inl (fun _ => 0))), ((r 11), .inl ((kf 11), 8, .inl (fun _ => 0))), ((r 4), .inl ((kf 4), 24, .inl (fun _ => 0))), ((r 12), .inl ((kf 12), 300, .inl (fun _ => 0)))] sz) := by
  refine Met.ofW (cc := cX12_movesAll) (maxL := 3) (ret := none) (by decide) rfl ?_
  intro p e s m args below meth c s₁ B hml hv
  obtain ⟨rfl, hsz, hP, hK, hD0⟩ := hv
  have hx := B.exec
  have hb := B.bytes
  have hr := B.returns
  have hts := atoms_spec (ws := (.code yX12_movesAll cX12_movesAll 3 none :: wsGB)) B.pre
  have hown : s.vm.findClass RX12 = some m.cls := findClass_of_methodNamed B.named
  have hlocks := B.notSynchronized
  subst hsz
  have hD := hD0.self (sz := s.heap.size)
  generalize hAe : va_A [(h0, .inr (12, fsM r)), ((r 0), .inl ((kf 0), 6, .inl (fun _ => 0))), ((r 1), .inl ((kf 1), 36, .inl (fun _ => 0))), ((r 2), .inl ((kf 2), 24, .inl (fun _ => 0))), ((r 3), .inl ((kf 3), 24, .inl (fun _ => 0))), ((r 5), .inl ((kf 5), 24, .inl (fun _ => 0))), ((r 6), .inl ((kf 6), 24, .inl (fun _ => 0))), ((r 7), .inl ((kf 7), 24, .inl (fun _ => 0))), ((r 8), .inl ((kf 8), 8, .inl (fun _ => 0))), ((r 9), .inl ((kf 9), 8, .inl (fun _ => 0))), ((r 10), .inl ((kf 10), 8, .inl (fun _ => 0))), ((r 11), .inl ((kf 11), 8, .inl (fun _ => 0))), ((r 4), .inl ((kf 4), 24, .inl (fun _ => 0))), ((r 12), .inl ((kf 12), 300, .inl (fun _ => 0)))] s.heap.size = A at hD ⊢
  have hA : ∀ q : Nat, s.heap.size ≤ q → A q := fun q h => by rw [← hAe]; exact Or.inr h
  have hS : va_S A s.heap s.heap [] := va_S.rf
  have hl := lv_entry ([.ref h0, .int 1]) (n := 3) (Nat.le_of_ble_eq_true rfl)
  rw [lg_entry_eq]
  generalize (lg_sl ([.ref h0, .int 1]) ++ List.replicate (3 - (lg_sl ([.ref h0, .int 1])).length) Slot.unset).toArray = ls at hl ⊢
  have hl : lv_has ls 3 [(0, .ref h0), (1, .int 1)] := hl
  refine lv_aload_n hx hb dX12_movesAll_0 rfl (lv_at hl 0 rfl) ?_
  refine lv_iload_n hx hb dX12_movesAll_1 rfl (lv_at hl 1 rfl) ?_
  refine va_put (D := (dC, dI)) (ci := 12) (v := .int 1) (ty := .boolean) (C := RX12) (T := TX12) (N := 57) hx hb hts (fun w h => List.mem_cons_of_mem _ (jnGB_X12 w h)) tyX12 tyX12_ok nmX12 hown hK hP hD hS 0 rfl rfl 24 (by decide) (hts _ (List.mem_cons_of_mem _ mGB_67)) (fun _ h9 => h9) rfl (by decide +kernel) rfl rfl (Nat.le_of_ble_eq_true rfl) dX12_movesAll_2 (fun H locs hP hD hS => ?_)
  have hP : va_P (dC, dI) vwCl [(h0, .inr (12, [.int 0, .int 0, .int 0, .int 0, .int 0, .int 0, .int 0, .int 0, .ref (r 0), .ref (r 1), .int 0, .ref (r 2), .ref (r 3), .ref (r 4), .ref (r 5), .ref (r 6), .ref (r 7), .int 0, .ref (r 8), .ref (r 9), .ref (r 10), .ref (r 11), .ref (r 12), .int 0, .int 1, .ref (r 13), .int 0, .int 0, .int (-1), .int 0, .int 0, .int 0, .int 0, .int 0, .ref (r 14), .ref (r 15), .ref (r 16), .int 0, .ref (r 17), .ref (r 18), .ref (r 19), .int 0, .int (-1), .int (-1), .int (-1), .int (-1), .ref (r 20), .int 0, .int 0, .int 0, .int 0, .int 0, .ref (r 21), .ref (r 22), .int 0, .ref (r 23), .int 0])), ((r 0), .inl ((kf 0), 6, .inl (fun _ => 0))), ((r 1), .inl ((kf 1), 36, .inl (fun _ => 0))), ((r 2), .inl ((kf 2), 24, .inl (fun _ => 0))), ((r 3), .inl ((kf 3), 24, .inl (fun _ => 0))), ((r 5), .inl ((kf 5), 24, .inl (fun _ => 0))), ((r 6), .inl ((kf 6), 24, .inl (fun _ => 0))), ((r 7), .inl ((kf 7), 24, .inl (fun _ => 0))), ((r 8), .inl ((kf 8), 8, .inl (fun _ => 0))), ((r 9), .inl ((kf 9), 8, .inl (fun _ => 0))), ((r 10), .inl ((kf 10), 8, .inl (fun _ => 0))), ((r 11), .inl ((kf 11), 8, .inl (fun _ => 0))), ((r 4), .inl ((kf 4), 24, .inl (fun _ => 0))), ((r 12), .inl ((kf 12), 300, .inl (fun _ => 0)))] H := hP
  have hD : va_D A [(h0, .inr (12, [.int 0, .int 0, .int 0, .int 0, .int 0, .int 0, .int 0, .int 0, .ref (r 0), .ref (r 1), .int 0, .ref (r 2), .ref (r 3), .ref (r 4), .ref (r 5), .ref (r 6), .ref (r 7), .int 0, .ref (r 8), .ref (r 9), .ref (r 10), .ref (r 11), .ref (r 12), .int 0, .int 1, .ref (r 13), .int 0, .int 0, .int (-1), .int 0, .int 0, .int 0, .int 0, .int 0, .ref (r 14), .ref (r 15), .ref (r 16), .int 0, .ref (r 17), .ref (r 18), .ref (r 19), .int 0, .int (-1), .int (-1), .int (-1), .int (-1), .ref (r 20), .int 0, .int 0, .int 0, .int 0, .int 0, .ref (r 21), .ref (r 22), .int 0, .ref (r 23), .int 0])), ((r 0), .inl ((kf 0), 6, .inl (fun _ => 0))), ((r 1), .inl ((kf 1), 36, .inl (fun _ => 0))), ((r 2), .inl ((kf 2), 24, .inl (fun _ => 0))), ((r 3), .inl ((kf 3), 24, .inl (fun _ => 0))), ((r 5), .inl ((kf 5), 24, .inl (fun _ => 0))), ((r 6), .inl ((kf 6), 24, .inl (fun _ => 0))), ((r 7), .inl ((kf 7), 24, .inl (fun _ => 0))), ((r 8), .inl ((kf 8), 8, .inl (fun _ => 0))), ((r 9), .inl ((kf 9), 8, .inl (fun _ => 0))), ((r 10), .inl ((kf 10), 8, .inl (fun _ => 0))), ((r 11), .inl ((kf 11), 8, .inl (fun _ => 0))), ((r 4), .inl ((kf 4), 24, .inl (fun _ => 0))), ((r 12), .inl ((kf 12), 300, .inl (fun _ => 0)))] := hD
  refine lv_aload_n hx hb dX12_movesAll_5 rfl (lv_at hl 0 rfl) ?_
  refine lv_iconst (v := 0) hx hb dX12_movesAll_6 (by decide) ?_
  refine va_put (D := (dC, dI)) (ci := 12) (v := .int 0) (ty := .int) (C := RX12) (T := TX12) (N := 57) hx hb hts (fun w h => List.mem_cons_of_mem _ (jnGB_X12 w h)) tyX12 tyX12_ok nmX12 hown hK hP hD hS 0 rfl rfl 23 (by decide) (hts _ (List.mem_cons_of_mem _ mGB_68)) (fun _ h9 => h9) rfl (by decide +kernel) rfl rfl (Nat.le_of_ble_eq_true rfl) dX12_movesAll_7 (fun H locs hP hD hS => ?_)
  have hP : va_P (dC, dI) vwCl [(h0, .inr (12, [.int 0, .int 0, .int 0, .int 0, .int 0, .int 0, .int 0, .int 0, .ref (r 0), .ref (r 1), .int 0, .ref (r 2), .ref (r 3), .ref (r 4), .ref (r 5), .ref (r 6), .ref (r 7), .int 0, .ref (r 8), .ref (r 9), .ref (r 10), .ref (r 11), .ref (r 12), .int 0, .int 1, .ref (r 13), .int 0, .int 0, .int (-1), .int 0, .int 0, .int 0, .int 0, .int 0, .ref (r 14), .ref (r 15), .ref (r 16), .int 0, .ref (r 17), .ref (r 18), .ref (r 19), .int 0, .int (-1), .int (-1), .int (-1), .int (-1), .ref (r 20), .int 0, .int 0, .int 0, .int 0, .int 0, .ref (r 21), .ref (r 22), .int 0, .ref (r 23), .int 0])), ((r 0), .inl ((kf 0), 6, .inl (fun _ => 0))), ((r 1), .inl ((kf 1), 36, .inl (fun _ => 0))), ((r 2), .inl ((kf 2), 24, .inl (fun _ => 0))), ((r 3), .inl ((kf 3), 24, .inl (fun _ => 0))), ((r 5), .inl ((kf 5), 24, .inl (fun _ => 0))), ((r 6), .inl ((kf 6), 24, .inl (fun _ => 0))), ((r 7), .inl ((kf 7), 24, .inl (fun _ => 0))), ((r 8), .inl ((kf 8), 8, .inl (fun _ => 0))), ((r 9), .inl ((kf 9), 8, .inl (fun _ => 0))), ((r 10), .inl ((kf 10), 8, .inl (fun _ => 0))), ((r 11), .inl ((kf 11), 8, .inl (fun _ => 0))), ((r 4), .inl ((kf 4), 24, .inl (fun _ => 0))), ((r 12), .inl ((kf 12), 300, .inl (fun _ => 0)))] H := hP
  have hD : va_D A [(h0, .inr (12, [.int 0, .int 0, .int 0, .int 0, .int 0, .int 0, .int 0, .int 0, .ref (r 0), .ref (r 1), .int 0, .ref (r 2), .ref (r 3), .ref (r 4), .ref (r 5), .ref (r 6), .ref (r 7), .int 0, .ref (r 8), .ref (r 9), .ref (r 10), .ref (r 11), .ref (r 12), .int 0, .int 1, .ref (r 13), .int 0, .int 0, .int (-1), .int 0, .int 0, .int 0, .int 0, .int 0, .ref (r 14), .ref (r 15), .ref (r 16), .int 0, .ref (r 17), .ref (r 18), .ref (r 19), .int 0, .int (-1), .int (-1), .int (-1), .int (-1), .ref (r 20), .int 0, .int 0, .int 0, .int 0, .int 0, .ref (r 21), .ref (r 22), .int 0, .ref (r 23), .int 0])), ((r 0), .inl ((kf 0), 6, .inl (fun _ => 0))), ((r 1), .inl ((kf 1), 36, .inl (fun _ => 0))), ((r 2), .inl ((kf 2), 24, .inl (fun _ => 0))), ((r 3), .inl ((kf 3), 24, .inl (fun _ => 0))), ((r 5), .inl ((kf 5), 24, .inl (fun _ => 0))), ((r 6), .inl ((kf 6), 24, .inl (fun _ => 0))), ((r 7), .inl ((kf 7), 24, .inl (fun _ => 0))), ((r 8), .inl ((kf 8), 8, .inl (fun _ => 0))), ((r 9), .inl ((kf 9), 8, .inl (fun _ => 0))), ((r 10), .inl ((kf 10), 8, .inl (fun _ => 0))), ((r 11), .inl ((kf 11), 8, .inl (fun _ => 0))), ((r 4), .inl ((kf 4), 24, .inl (fun _ => 0))), ((r 12), .inl ((kf 12), 300, .inl (fun _ => 0)))] := hD
  refine lv_aload_n hx hb dX12_movesAll_10 rfl (lv_at hl 0 rfl) ?_
  refine lv_aload_n hx hb dX12_movesAll_11 rfl (lv_at hl 0 rfl) ?_
  refine lv_aload_n hx hb dX12_movesAll_12 rfl (lv_at hl 0 rfl) ?_
  refine va_get (D := (dC, dI)) (ci := 12) (v := .int 0) (C := RX12) (T := TX12) (N := 57) hx hb hts (fun w h => List.mem_cons_of_mem _ (jnGB_X12 w h)) hown hK hP 0 rfl rfl 0 (by decide) (hts _ (List.mem_cons_of_mem _ mGB_27)) (fun _ h9 => h9) rfl dX12_movesAll_13 ?_
  have hP : va_P (dC, dI) vwCl [(h0, .inr (12, fsMk r (nI 0) 1)), ((r 0), .inl ((kf 0), 6, .inl (fun _ => 0))), ((r 1), .inl ((kf 1), 36, .inl (fun _ => 0))), ((r 2), .inl ((kf 2), 24, .inl (fun _ => 0))), ((r 3), .inl ((kf 3), 24, .inl (fun _ => 0))), ((r 5), .inl ((kf 5), 24, .inl (fun _ => 0))), ((r 6), .inl ((kf 6), 24, .inl (fun _ => 0))), ((r 7), .inl ((kf 7), 24, .inl (fun _ => 0))), ((r 8), .inl ((kf 8), 8, .inl (fun _ => 0))), ((r 9), .inl ((kf 9), 8, .inl (fun _ => 0))), ((r 10), .inl ((kf 10), 8, .inl (fun _ => 0))), ((r 11), .inl ((kf 11), 8, .inl (fun _ => 0))), ((r 4), .inl ((kf 4), 24, .inl (fun _ => 0))), ((r 12), .inl ((kf 12), 300, .inl (fun _ => 0)))] H := hP
  have hD : va_D A [(h0, .inr (12, fsMk r (nI 0) 1)), ((r 0), .inl ((kf 0), 6, .inl (fun _ => 0))), ((r 1), .inl ((kf 1), 36, .inl (fun _ => 0))), ((r 2), .inl ((kf 2), 24, .inl (fun _ => 0))), ((r 3), .inl ((kf 3), 24, .inl (fun _ => 0))), ((r 5), .inl ((kf 5), 24, .inl (fun _ => 0))), ((r 6), .inl ((kf 6), 24, .inl (fun _ => 0))), ((r 7), .inl ((kf 7), 24, .inl (fun _ => 0))), ((r 8), .inl ((kf 8), 8, .inl (fun _ => 0))), ((r 9), .inl ((kf 9), 8, .inl (fun _ => 0))), ((r 10), .inl ((kf 10), 8, .inl (fun _ => 0))), ((r 11), .inl ((kf 11), 8, .inl (fun _ => 0))), ((r 4), .inl ((kf 4), 24, .inl (fun _ => 0))), ((r 12), .inl ((kf 12), 300, .inl (fun _ => 0)))] := hD
  have hPc := hP.sub (ws' := [(h0, .inr (12, fsMk r (nI 0) 1)), ((r 12), .inl ((kf 12), 300, .inl (fun _ => 0)))]) [0, 13] rfl
  have hDc := hD.sub (ws' := [(h0, .inr (12, fsMk r (nI 0) 1)), ((r 12), .inl ((kf 12), 300, .inl (fun _ => 0)))]) [0, 13] (by decide) rfl
  have hKc := hK.sub (tys' := [((kf 12), .int)]) [12] rfl
  have hFc := va_free (wc := [(h0, .inr (12, fsMk r (nI 0) 1)), ((r 12), .inl ((kf 12), 300, .inl (fun _ => 0)))]) hD hS hA [0, 13] rfl
  refine va_calli (va_runV (As := [.int 0]) (rest := [.ref h0]) ⟨hx, hb, hml, hown, hts⟩ (fX12_moves l dC dI H.size h0 r kf 0 (fun _ => 0) 0 (by decide)) (cwV 1 hts (gz_gV mGB_70 mGB_71 mGB_72 mGB_5 mGB_69 goodGB) rfl rfl rfl (by decide +kernel) ⟨Nat.le_of_ble_eq_true rfl, Nat.le_of_ble_eq_true rfl⟩) ⟨fun a U g mk q => by obtain ⟨q0, q1, qP, qK, qD⟩ := q; exact ⟨q0, q1, qP, va_K.moved (u := U) (U := U.calling g mk a) (Vm.Alike.refl U.vm) qK, qD⟩, va_recv hKc hPc (ci := 12) (q0 := 0) rfl rfl, fun U hU hW => ⟨rfl, by rw [hU], by rw [hU]; exact hPc, va_K.moved hW.alike hKc, hDc.weaken (fun _ _ _ _ => trivial)⟩⟩ rfl rfl hl.1 rfl (lv_room (Nat.le_of_ble_eq_true rfl)) dX12_movesAll_16 ⟨Nat.le_of_ble_eq_true rfl, Nat.le_of_ble_eq_true rfl⟩) hS (fun q _ h => hFc q h) hFc (fun r_2 u t H1 locs ht hvm hw hB hz1 hk1 hS => ?_)
  obtain ⟨f_1, hP1, hK1, hD1⟩ := hB
  rw [ht] at hP1
  have hK1 := va_K.moved hvm.symm hK1
  obtain ⟨hP, hD⟩ := va_join (wr := [((r 0), .inl ((kf 0), 6, .inl (fun _ => 0))), ((r 1), .inl ((kf 1), 36, .inl (fun _ => 0))), ((r 2), .inl ((kf 2), 24, .inl (fun _ => 0))), ((r 3), .inl ((kf 3), 24, .inl (fun _ => 0))), ((r 5), .inl ((kf 5), 24, .inl (fun _ => 0))), ((r 6), .inl ((kf 6), 24, .inl (fun _ => 0))), ((r 7), .inl ((kf 7), 24, .inl (fun _ => 0))), ((r 8), .inl ((kf 8), 8, .inl (fun _ => 0))), ((r 9), .inl ((kf 9), 8, .inl (fun _ => 0))), ((r 10), .inl ((kf 10), 8, .inl (fun _ => 0))), ((r 11), .inl ((kf 11), 8, .inl (fun _ => 0))), ((r 4), .inl ((kf 4), 24, .inl (fun _ => 0)))]) (w1 := [(h0, .inr (12, fsMk r (nI (0 + 1)) 1)), ((r 12), .inl ((kf 12), 300, .inl f_1))]) hP hD [0, 13] [1, 2, 3, 4, 5, 6, 7, 8, 9, 10, 11, 12] rfl rfl (by decide) (by decide) hk1 hFc hP1 hD1
  generalize H1 = H at hP hS ⊢
  have hP : va_P (dC, dI) vwCl [((r 0), .inl ((kf 0), 6, .inl (fun _ => 0))), ((r 1), .inl ((kf 1), 36, .inl (fun _ => 0))), ((r 2), .inl ((kf 2), 24, .inl (fun _ => 0))), ((r 3), .inl ((kf 3), 24, .inl (fun _ => 0))), ((r 5), .inl ((kf 5), 24, .inl (fun _ => 0))), ((r 6), .inl ((kf 6), 24, .inl (fun _ => 0))), ((r 7), .inl ((kf 7), 24, .inl (fun _ => 0))), ((r 8), .inl ((kf 8), 8, .inl (fun _ => 0))), ((r 9), .inl ((kf 9), 8, .inl (fun _ => 0))), ((r 10), .inl ((kf 10), 8, .inl (fun _ => 0))), ((r 11), .inl ((kf 11), 8, .inl (fun _ => 0))), ((r 4), .inl ((kf 4), 24, .inl (fun _ => 0))), (h0, .inr (12, fsMk r (nI (0 + 1)) 1)), ((r 12), .inl ((kf 12), 300, .inl f_1))] H := hP
  have hD : va_D A [((r 0), .inl ((kf 0), 6, .inl (fun _ => 0))), ((r 1), .inl ((kf 1), 36, .inl (fun _ => 0))), ((r 2), .inl ((kf 2), 24, .inl (fun _ => 0))), ((r 3), .inl ((kf 3), 24, .inl (fun _ => 0))), ((r 5), .inl ((kf 5), 24, .inl (fun _ => 0))), ((r 6), .inl ((kf 6), 24, .inl (fun _ => 0))), ((r 7), .inl ((kf 7), 24, .inl (fun _ => 0))), ((r 8), .inl ((kf 8), 8, .inl (fun _ => 0))), ((r 9), .inl ((kf 9), 8, .inl (fun _ => 0))), ((r 10), .inl ((kf 10), 8, .inl (fun _ => 0))), ((r 11), .inl ((kf 11), 8, .inl (fun _ => 0))), ((r 4), .inl ((kf 4), 24, .inl (fun _ => 0))), (h0, .inr (12, fsMk r (nI (0 + 1)) 1)), ((r 12), .inl ((kf 12), 300, .inl f_1))] := hD
  subst hw
  have hP : va_P (dC, dI) vwCl [((r 0), .inl ((kf 0), 6, .inl (fun _ => 0))), ((r 1), .inl ((kf 1), 36, .inl (fun _ => 0))), ((r 2), .inl ((kf 2), 24, .inl (fun _ => 0))), ((r 3), .inl ((kf 3), 24, .inl (fun _ => 0))), ((r 5), .inl ((kf 5), 24, .inl (fun _ => 0))), ((r 6), .inl ((kf 6), 24, .inl (fun _ => 0))), ((r 7), .inl ((kf 7), 24, .inl (fun _ => 0))), ((r 8), .inl ((kf 8), 8, .inl (fun _ => 0))), ((r 9), .inl ((kf 9), 8, .inl (fun _ => 0))), ((r 10), .inl ((kf 10), 8, .inl (fun _ => 0))), ((r 11), .inl ((kf 11), 8, .inl (fun _ => 0))), ((r 4), .inl ((kf 4), 24, .inl (fun _ => 0))), (h0, .inr (12, fsMk r (nI 1) 1)), ((r 12), .inl ((kf 12), 300, .inl f_1))] H := hP
  have hD : va_D A [((r 0), .inl ((kf 0), 6, .inl (fun _ => 0))), ((r 1), .inl ((kf 1), 36, .inl (fun _ => 0))), ((r 2), .inl ((kf 2), 24, .inl (fun _ => 0))), ((r 3), .inl ((kf 3), 24, .inl (fun _ => 0))), ((r 5), .inl ((kf 5), 24, .inl (fun _ => 0))), ((r 6), .inl ((kf 6), 24, .inl (fun _ => 0))), ((r 7), .inl ((kf 7), 24, .inl (fun _ => 0))), ((r 8), .inl ((kf 8), 8, .inl (fun _ => 0))), ((r 9), .inl ((kf 9), 8, .inl (fun _ => 0))), ((r 10), .inl ((kf 10), 8, .inl (fun _ => 0))), ((r 11), .inl ((kf 11), 8, .inl (fun _ => 0))), ((r 4), .inl ((kf 4), 24, .inl (fun _ => 0))), (h0, .inr (12, fsMk r (nI 1) 1)), ((r 12), .inl ((kf 12), 300, .inl f_1))] := hD
  refine va_put (D := (dC, dI)) (ci := 12) (v := .int 0) (ty := .int) (C := RX12) (T := TX12) (N := 57) hx hb hts (fun w h => List.mem_cons_of_mem _ (jnGB_X12 w h)) tyX12 tyX12_ok nmX12 hown hK hP hD hS 12 rfl rfl 0 (by decide) (hts _ (List.mem_cons_of_mem _ mGB_27)) (fun _ h9 => h9) rfl (by decide +kernel) rfl rfl (Nat.le_of_ble_eq_true rfl) dX12_movesAll_19 (fun H locs hP hD hS => ?_)
  have hP : va_P (dC, dI) vwCl [((r 0), .inl ((kf 0), 6, .inl (fun _ => 0))), ((r 1), .inl ((kf 1), 36, .inl (fun _ => 0))), ((r 2), .inl ((kf 2), 24, .inl (fun _ => 0))), ((r 3), .inl ((kf 3), 24, .inl (fun _ => 0))), ((r 5), .inl ((kf 5), 24, .inl (fun _ => 0))), ((r 6), .inl ((kf 6), 24, .inl (fun _ => 0))), ((r 7), .inl ((kf 7), 24, .inl (fun _ => 0))), ((r 8), .inl ((kf 8), 8, .inl (fun _ => 0))), ((r 9), .inl ((kf 9), 8, .inl (fun _ => 0))), ((r 10), .inl ((kf 10), 8, .inl (fun _ => 0))), ((r 11), .inl ((kf 11), 8, .inl (fun _ => 0))), ((r 4), .inl ((kf 4), 24, .inl (fun _ => 0))), (h0, .inr (12, [.int 0, .int 0, .int 0, .int 0, .int 0, .int 0, .int 0, .int 0, .ref (r 0), .ref (r 1), .int 0, .ref (r 2), .ref (r 3), .ref (r 4), .ref (r 5), .ref (r 6), .ref (r 7), .int 0, .ref (r 8), .ref (r 9), .ref (r 10), .ref (r 11), .ref (r 12), .int (nI 1), .int 1, .ref (r 13), .int 0, .int 0, .int (-1), .int 0, .int 0, .int 0, .int 0, .int 0, .ref (r 14), .ref (r 15), .ref (r 16), .int 0, .ref (r 17), .ref (r 18), .ref (r 19), .int 0, .int (-1), .int (-1), .int (-1), .int (-1), .ref (r 20), .int 0, .int 0, .int 0, .int 0, .int 0, .ref (r 21), .ref (r 22), .int 0, .ref (r 23), .int 0])), ((r 12), .inl ((kf 12), 300, .inl f_1))] H := hP
  have hD : va_D A [((r 0), .inl ((kf 0), 6, .inl (fun _ => 0))), ((r 1), .inl ((kf 1), 36, .inl (fun _ => 0))), ((r 2), .inl ((kf 2), 24, .inl (fun _ => 0))), ((r 3), .inl ((kf 3), 24, .inl (fun _ => 0))), ((r 5), .inl ((kf 5), 24, .inl (fun _ => 0))), ((r 6), .inl ((kf 6), 24, .inl (fun _ => 0))), ((r 7), .inl ((kf 7), 24, .inl (fun _ => 0))), ((r 8), .inl ((kf 8), 8, .inl (fun _ => 0))), ((r 9), .inl ((kf 9), 8, .inl (fun _ => 0))), ((r 10), .inl ((kf 10), 8, .inl (fun _ => 0))), ((r 11), .inl ((kf 11), 8, .inl (fun _ => 0))), ((r 4), .inl ((kf 4), 24, .inl (fun _ => 0))), (h0, .inr (12, [.int 0, .int 0, .int 0, .int 0, .int 0, .int 0, .int 0, .int 0, .ref (r 0), .ref (r 1), .int 0, .ref (r 2), .ref (r 3), .ref (r 4), .ref (r 5), .ref (r 6), .ref (r 7), .int 0, .ref (r 8), .ref (r 9), .ref (r 10), .ref (r 11), .ref (r 12), .int (nI 1), .int 1, .ref (r 13), .int 0, .int 0, .int (-1), .int 0, .int 0, .int 0, .int 0, .int 0, .ref (r 14), .ref (r 15), .ref (r 16), .int 0, .ref (r 17), .ref (r 18), .ref (r 19), .int 0, .int (-1), .int (-1), .int (-1), .int (-1), .ref (r 20), .int 0, .int 0, .int 0, .int 0, .int 0, .ref (r 21), .ref (r 22), .int 0, .ref (r 23), .int 0])), ((r 12), .inl ((kf 12), 300, .inl f_1))] := hD
  refine lv_aload_n hx hb dX12_movesAll_22 rfl (lv_at hl 0 rfl) ?_
  refine lv_aload_n hx hb dX12_movesAll_23 rfl (lv_at hl 0 rfl) ?_
  refine lv_aload_n hx hb dX12_movesAll_24 rfl (lv_at hl 0 rfl) ?_
  refine va_get (D := (dC, dI)) (ci := 12) (v := .int 0) (C := RX12) (T := TX12) (N := 57) hx hb hts (fun w h => List.mem_cons_of_mem _ (jnGB_X12 w h)) hown hK hP 12 rfl rfl 1 (by decide) (hts _ (List.mem_cons_of_mem _ mGB_28)) (fun _ h9 => h9) rfl dX12_movesAll_25 ?_
  have hP : va_P (dC, dI) vwCl [((r 0), .inl ((kf 0), 6, .inl (fun _ => 0))), ((r 1), .inl ((kf 1), 36, .inl (fun _ => 0))), ((r 2), .inl ((kf 2), 24, .inl (fun _ => 0))), ((r 3), .inl ((kf 3), 24, .inl (fun _ => 0))), ((r 5), .inl ((kf 5), 24, .inl (fun _ => 0))), ((r 6), .inl ((kf 6), 24, .inl (fun _ => 0))), ((r 7), .inl ((kf 7), 24, .inl (fun _ => 0))), ((r 8), .inl ((kf 8), 8, .inl (fun _ => 0))), ((r 9), .inl ((kf 9), 8, .inl (fun _ => 0))), ((r 10), .inl ((kf 10), 8, .inl (fun _ => 0))), ((r 11), .inl ((kf 11), 8, .inl (fun _ => 0))), ((r 4), .inl ((kf 4), 24, .inl (fun _ => 0))), (h0, .inr (12, fsMk r (nI 1) 1)), ((r 12), .inl ((kf 12), 300, .inl f_1))] H := hP
  have hD : va_D A [((r 0), .inl ((kf 0), 6, .inl (fun _ => 0))), ((r 1), .inl ((kf 1), 36, .inl (fun _ => 0))), ((r 2), .inl ((kf 2), 24, .inl (fun _ => 0))), ((r 3), .inl ((kf 3), 24, .inl (fun _ => 0))), ((r 5), .inl ((kf 5), 24, .inl (fun _ => 0))), ((r 6), .inl ((kf 6), 24, .inl (fun _ => 0))), ((r 7), .inl ((kf 7), 24, .inl (fun _ => 0))), ((r 8), .inl ((kf 8), 8, .inl (fun _ => 0))), ((r 9), .inl ((kf 9), 8, .inl (fun _ => 0))), ((r 10), .inl ((kf 10), 8, .inl (fun _ => 0))), ((r 11), .inl ((kf 11), 8, .inl (fun _ => 0))), ((r 4), .inl ((kf 4), 24, .inl (fun _ => 0))), (h0, .inr (12, fsMk r (nI 1) 1)), ((r 12), .inl ((kf 12), 300, .inl f_1))] := hD
  have hPc := hP.sub (ws' := [(h0, .inr (12, fsMk r (nI 1) 1)), ((r 12), .inl ((kf 12), 300, .inl f_1))]) [12, 13] rfl
  have hDc := hD.sub (ws' := [(h0, .inr (12, fsMk r (nI 1) 1)), ((r 12), .inl ((kf 12), 300, .inl f_1))]) [12, 13] (by decide) rfl
  have hKc := hK.sub (tys' := [((kf 12), .int)]) [12] rfl
  have hFc := va_free (wc := [(h0, .inr (12, fsMk r (nI 1) 1)), ((r 12), .inl ((kf 12), 300, .inl f_1))]) hD hS hA [12, 13] rfl
  refine va_calli (va_runV (As := [.int 0]) (rest := [.ref h0]) ⟨hx, hb, hml, hown, hts⟩ (fX12_moves l dC dI H.size h0 r kf 1 f_1 0 (by decide)) (cwV 1 hts (gz_gV mGB_70 mGB_71 mGB_72 mGB_5 mGB_69 goodGB) rfl rfl rfl (by decide +kernel) ⟨Nat.le_of_ble_eq_true rfl, Nat.le_of_ble_eq_true rfl⟩) ⟨fun a U g mk q => by obtain ⟨q0, q1, qP, qK, qD⟩ := q; exact ⟨q0, q1, qP, va_K.moved (u := U) (U := U.calling g mk a) (Vm.Alike.refl U.vm) qK, qD⟩, va_recv hKc hPc (ci := 12) (q0 := 0) rfl rfl, fun U hU hW => ⟨rfl, by rw [hU], by rw [hU]; exact hPc, va_K.moved hW.alike hKc, hDc.weaken (fun _ _ _ _ => trivial)⟩⟩ rfl rfl hl.1 rfl (lv_room (Nat.le_of_ble_eq_true rfl)) dX12_movesAll_28 ⟨Nat.le_of_ble_eq_true rfl, Nat.le_of_ble_eq_true rfl⟩) hS (fun q _ h => hFc q h) hFc (fun r_4 u t H1 locs ht hvm hw hB hz1 hk1 hS => ?_)
  obtain ⟨f_3, hP1, hK1, hD1⟩ := hB
  rw [ht] at hP1
  have hK1 := va_K.moved hvm.symm hK1
  obtain ⟨hP, hD⟩ := va_join (wr := [((r 0), .inl ((kf 0), 6, .inl (fun _ => 0))), ((r 1), .inl ((kf 1), 36, .inl (fun _ => 0))), ((r 2), .inl ((kf 2), 24, .inl (fun _ => 0))), ((r 3), .inl ((kf 3), 24, .inl (fun _ => 0))), ((r 5), .inl ((kf 5), 24, .inl (fun _ => 0))), ((r 6), .inl ((kf 6), 24, .inl (fun _ => 0))), ((r 7), .inl ((kf 7), 24, .inl (fun _ => 0))), ((r 8), .inl ((kf 8), 8, .inl (fun _ => 0))), ((r 9), .inl ((kf 9), 8, .inl (fun _ => 0))), ((r 10), .inl ((kf 10), 8, .inl (fun _ => 0))), ((r 11), .inl ((kf 11), 8, .inl (fun _ => 0))), ((r 4), .inl ((kf 4), 24, .inl (fun _ => 0)))]) (w1 := [(h0, .inr (12, fsMk r (nI (1 + 1)) 1)), ((r 12), .inl ((kf 12), 300, .inl f_3))]) hP hD [12, 13] [0, 1, 2, 3, 4, 5, 6, 7, 8, 9, 10, 11] rfl rfl (by decide) (by decide) hk1 hFc hP1 hD1
  generalize H1 = H at hP hS ⊢
  have hP : va_P (dC, dI) vwCl [((r 0), .inl ((kf 0), 6, .inl (fun _ => 0))), ((r 1), .inl ((kf 1), 36, .inl (fun _ => 0))), ((r 2), .inl ((kf 2), 24, .inl (fun _ => 0))), ((r 3), .inl ((kf 3), 24, .inl (fun _ => 0))), ((r 5), .inl ((kf 5), 24, .inl (fun _ => 0))), ((r 6), .inl ((kf 6), 24, .inl (fun _ => 0))), ((r 7), .inl ((kf 7), 24, .inl (fun _ => 0))), ((r 8), .inl ((kf 8), 8, .inl (fun _ => 0))), ((r 9), .inl ((kf 9), 8, .inl (fun _ => 0))), ((r 10), .inl ((kf 10), 8, .inl (fun _ => 0))), ((r 11), .inl ((kf 11), 8, .inl (fun _ => 0))), ((r 4), .inl ((kf 4), 24, .inl (fun _ => 0))), (h0, .inr (12, fsMk r (nI (1 + 1)) 1)), ((r 12), .inl ((kf 12), 300, .inl f_3))] H := hP
  have hD : va_D A [((r 0), .inl ((kf 0), 6, .inl (fun _ => 0))), ((r 1), .inl ((kf 1), 36, .inl (fun _ => 0))), ((r 2), .inl ((kf 2), 24, .inl (fun _ => 0))), ((r 3), .inl ((kf 3), 24, .inl (fun _ => 0))), ((r 5), .inl ((kf 5), 24, .inl (fun _ => 0))), ((r 6), .inl ((kf 6), 24, .inl (fun _ => 0))), ((r 7), .inl ((kf 7), 24, .inl (fun _ => 0))), ((r 8), .inl ((kf 8), 8, .inl (fun _ => 0))), ((r 9), .inl ((kf 9), 8, .inl (fun _ => 0))), ((r 10), .inl ((kf 10), 8, .inl (fun _ => 0))), ((r 11), .inl ((kf 11), 8, .inl (fun _ => 0))), ((r 4), .inl ((kf 4), 24, .inl (fun _ => 0))), (h0, .inr (12, fsMk r (nI (1 + 1)) 1)), ((r 12), .inl ((kf 12), 300, .inl f_3))] := hD
  subst hw
  have hP : va_P (dC, dI) vwCl [((r 0), .inl ((kf 0), 6, .inl (fun _ => 0))), ((r 1), .inl ((kf 1), 36, .inl (fun _ => 0))), ((r 2), .inl ((kf 2), 24, .inl (fun _ => 0))), ((r 3), .inl ((kf 3), 24, .inl (fun _ => 0))), ((r 5), .inl ((kf 5), 24, .inl (fun _ => 0))), ((r 6), .inl ((kf 6), 24, .inl (fun _ => 0))), ((r 7), .inl ((kf 7), 24, .inl (fun _ => 0))), ((r 8), .inl ((kf 8), 8, .inl (fun _ => 0))), ((r 9), .inl ((kf 9), 8, .inl (fun _ => 0))), ((r 10), .inl ((kf 10), 8, .inl (fun _ => 0))), ((r 11), .inl ((kf 11), 8, .inl (fun _ => 0))), ((r 4), .inl ((kf 4), 24, .inl (fun _ => 0))), (h0, .inr (12, fsMk r (nI 2) 1)), ((r 12), .inl ((kf 12), 300, .inl f_3))] H := hP
  have hD : va_D A [((r 0), .inl ((kf 0), 6, .inl (fun _ => 0))), ((r 1), .inl ((kf 1), 36, .inl (fun _ => 0))), ((r 2), .inl ((kf 2), 24, .inl (fun _ => 0))), ((r 3), .inl ((kf 3), 24, .inl (fun _ => 0))), ((r 5), .inl ((kf 5), 24, .inl (fun _ => 0))), ((r 6), .inl ((kf 6), 24, .inl (fun _ => 0))), ((r 7), .inl ((kf 7), 24, .inl (fun _ => 0))), ((r 8), .inl ((kf 8), 8, .inl (fun _ => 0))), ((r 9), .inl ((kf 9), 8, .inl (fun _ => 0))), ((r 10), .inl ((kf 10), 8, .inl (fun _ => 0))), ((r 11), .inl ((kf 11), 8, .inl (fun _ => 0))), ((r 4), .inl ((kf 4), 24, .inl (fun _ => 0))), (h0, .inr (12, fsMk r (nI 2) 1)), ((r 12), .inl ((kf 12), 300, .inl f_3))] := hD
  refine va_put (D := (dC, dI)) (ci := 12) (v := .int 0) (ty := .int) (C := RX12) (T := TX12) (N := 57) hx hb hts (fun w h => List.mem_cons_of_mem _ (jnGB_X12 w h)) tyX12 tyX12_ok nmX12 hown hK hP hD hS 12 rfl rfl 1 (by decide) (hts _ (List.mem_cons_of_mem _ mGB_28)) (fun _ h9 => h9) rfl (by decide +kernel) rfl rfl (Nat.le_of_ble_eq_true rfl) dX12_movesAll_31 (fun H locs hP hD hS => ?_)
  have hP : va_P (dC, dI) vwCl [((r 0), .inl ((kf 0), 6, .inl (fun _ => 0))), ((r 1), .inl ((kf 1), 36, .inl (fun _ => 0))), ((r 2), .inl ((kf 2), 24, .inl (fun _ => 0))), ((r 3), .inl ((kf 3), 24, .inl (fun _ => 0))), ((r 5), .inl ((kf 5), 24, .inl (fun _ => 0))), ((r 6), .inl ((kf 6), 24, .inl (fun _ => 0))), ((r 7), .inl ((kf 7), 24, .inl (fun _ => 0))), ((r 8), .inl ((kf 8), 8, .inl (fun _ => 0))), ((r 9), .inl ((kf 9), 8, .inl (fun _ => 0))), ((r 10), .inl ((kf 10), 8, .inl (fun _ => 0))), ((r 11), .inl ((kf 11), 8, .inl (fun _ => 0))), ((r 4), .inl ((kf 4), 24, .inl (fun _ => 0))), (h0, .inr (12, [.int 0, .int 0, .int 0, .int 0, .int 0, .int 0, .int 0, .int 0, .ref (r 0), .ref (r 1), .int 0, .ref (r 2), .ref (r 3), .ref (r 4), .ref (r 5), .ref (r 6), .ref (r 7), .int 0, .ref (r 8), .ref (r 9), .ref (r 10), .ref (r 11), .ref (r 12), .int (nI 2), .int 1, .ref (r 13), .int 0, .int 0, .int (-1), .int 0, .int 0, .int 0, .int 0, .int 0, .ref (r 14), .ref (r 15), .ref (r 16), .int 0, .ref (r 17), .ref (r 18), .ref (r 19), .int 0, .int (-1), .int (-1), .int (-1), .int (-1), .ref (r 20), .int 0, .int 0, .int 0, .int 0, .int 0, .ref (r 21), .ref (r 22), .int 0, .ref (r 23), .int 0])), ((r 12), .inl ((kf 12), 300, .inl f_3))] H := hP
  have hD : va_D A [((r 0), .inl ((kf 0), 6, .inl (fun _ => 0))), ((r 1), .inl ((kf 1), 36, .inl (fun _ => 0))), ((r 2), .inl ((kf 2), 24, .inl (fun _ => 0))), ((r 3), .inl ((kf 3), 24, .inl (fun _ => 0))), ((r 5), .inl ((kf 5), 24, .inl (fun _ => 0))), ((r 6), .inl ((kf 6), 24, .inl (fun _ => 0))), ((r 7), .inl ((kf 7), 24, .inl (fun _ => 0))), ((r 8), .inl ((kf 8), 8, .inl (fun _ => 0))), ((r 9), .inl ((kf 9), 8, .inl (fun _ => 0))), ((r 10), .inl ((kf 10), 8, .inl (fun _ => 0))), ((r 11), .inl ((kf 11), 8, .inl (fun _ => 0))), ((r 4), .inl ((kf 4), 24, .inl (fun _ => 0))), (h0, .inr (12, [.int 0, .int 0, .int 0, .int 0, .int 0, .int 0, .int 0, .int 0, .ref (r 0), .ref (r 1), .int 0, .ref (r 2), .ref (r 3), .ref (r 4), .ref (r 5), .ref (r 6), .ref (r 7), .int 0, .ref (r 8), .ref (r 9), .ref (r 10), .ref (r 11), .ref (r 12), .int (nI 2), .int 1, .ref (r 13), .int 0, .int 0, .int (-1), .int 0, .int 0, .int 0, .int 0, .int 0, .ref (r 14), .ref (r 15), .ref (r 16), .int 0, .ref (r 17), .ref (r 18), .ref (r 19), .int 0, .int (-1), .int (-1), .int (-1), .int (-1), .ref (r 20), .int 0, .int 0, .int 0, .int 0, .int 0, .ref (r 21), .ref (r 22), .int 0, .ref (r 23), .int 0])), ((r 12), .inl ((kf 12), 300, .inl f_3))] := hD
  refine lv_aload_n hx hb dX12_movesAll_34 rfl (lv_at hl 0 rfl) ?_
  refine lv_aload_n hx hb dX12_movesAll_35 rfl (lv_at hl 0 rfl) ?_
  refine lv_aload_n hx hb dX12_movesAll_36 rfl (lv_at hl 0 rfl) ?_
  refine va_get (D := (dC, dI)) (ci := 12) (v := .int 0) (C := RX12) (T := TX12) (N := 57) hx hb hts (fun w h => List.mem_cons_of_mem _ (jnGB_X12 w h)) hown hK hP 12 rfl rfl 2 (by decide) (hts _ (List.mem_cons_of_mem _ mGB_29)) (fun _ h9 => h9) rfl dX12_movesAll_37 ?_
  have hP : va_P (dC, dI) vwCl [((r 0), .inl ((kf 0), 6, .inl (fun _ => 0))), ((r 1), .inl ((kf 1), 36, .inl (fun _ => 0))), ((r 2), .inl ((kf 2), 24, .inl (fun _ => 0))), ((r 3), .inl ((kf 3), 24, .inl (fun _ => 0))), ((r 5), .inl ((kf 5), 24, .inl (fun _ => 0))), ((r 6), .inl ((kf 6), 24, .inl (fun _ => 0))), ((r 7), .inl ((kf 7), 24, .inl (fun _ => 0))), ((r 8), .inl ((kf 8), 8, .inl (fun _ => 0))), ((r 9), .inl ((kf 9), 8, .inl (fun _ => 0))), ((r 10), .inl ((kf 10), 8, .inl (fun _ => 0))), ((r 11), .inl ((kf 11), 8, .inl (fun _ => 0))), ((r 4), .inl ((kf 4), 24, .inl (fun _ => 0))), (h0, .inr (12, fsMk r (nI 2) 1)), ((r 12), .inl ((kf 12), 300, .inl f_3))] H := hP
  have hD : va_D A [((r 0), .inl ((kf 0), 6, .inl (fun _ => 0))), ((r 1), .inl ((kf 1), 36, .inl (fun _ => 0))), ((r 2), .inl ((kf 2), 24, .inl (fun _ => 0))), ((r 3), .inl ((kf 3), 24, .inl (fun _ => 0))), ((r 5), .inl ((kf 5), 24, .inl (fun _ => 0))), ((r 6), .inl ((kf 6), 24, .inl (fun _ => 0))), ((r 7), .inl ((kf 7), 24, .inl (fun _ => 0))), ((r 8), .inl ((kf 8), 8, .inl (fun _ => 0))), ((r 9), .inl ((kf 9), 8, .inl (fun _ => 0))), ((r 10), .inl ((kf 10), 8, .inl (fun _ => 0))), ((r 11), .inl ((kf 11), 8, .inl (fun _ => 0))), ((r 4), .inl ((kf 4), 24, .inl (fun _ => 0))), (h0, .inr (12, fsMk r (nI 2) 1)), ((r 12), .inl ((kf 12), 300, .inl f_3))] := hD
  have hPc := hP.sub (ws' := [(h0, .inr (12, fsMk r (nI 2) 1)), ((r 12), .inl ((kf 12), 300, .inl f_3))]) [12, 13] rfl
  have hDc := hD.sub (ws' := [(h0, .inr (12, fsMk r (nI 2) 1)), ((r 12), .inl ((kf 12), 300, .inl f_3))]) [12, 13] (by decide) rfl
  have hKc := hK.sub (tys' := [((kf 12), .int)]) [12] rfl
  have hFc := va_free (wc := [(h0, .inr (12, fsMk r (nI 2) 1)), ((r 12), .inl ((kf 12), 300, .inl f_3))]) hD hS hA [12, 13] rfl
  refine va_calli (va_runV (As := [.int 0]) (rest := [.ref h0]) ⟨hx, hb, hml, hown, hts⟩ (fX12_moves l dC dI H.size h0 r kf 2 f_3 0 (by decide)) (cwV 1 hts (gz_gV mGB_70 mGB_71 mGB_72 mGB_5 mGB_69 goodGB) rfl rfl rfl (by decide +kernel) ⟨Nat.le_of_ble_eq_true rfl, Nat.le_of_ble_eq_true rfl⟩) ⟨fun a U g mk q => by obtain ⟨q0, q1, qP, qK, qD⟩ := q; exact ⟨q0, q1, qP, va_K.moved (u := U) (U := U.calling g mk a) (Vm.Alike.refl U.vm) qK, qD⟩, va_recv hKc hPc (ci := 12) (q0 := 0) rfl rfl, fun U hU hW => ⟨rfl, by rw [hU], by rw [hU]; exact hPc, va_K.moved hW.alike hKc, hDc.weaken (fun _ _ _ _ => trivial)⟩⟩ rfl rfl hl.1 rfl (lv_room (Nat.le_of_ble_eq_true rfl)) dX12_movesAll_40 ⟨Nat.le_of_ble_eq_true rfl, Nat.le_of_ble_eq_true rfl⟩) hS (fun q _ h => hFc q h) hFc (fun r_6 u t H1 locs ht hvm hw hB hz1 hk1 hS => ?_)
  obtain ⟨f_5, hP1, hK1, hD1⟩ := hB
  rw [ht] at hP1
  have hK1 := va_K.moved hvm.symm hK1
  obtain ⟨hP, hD⟩ := va_join (wr := [((r 0), .inl ((kf 0), 6, .inl (fun _ => 0))), ((r 1), .inl ((kf 1), 36, .inl (fun _ => 0))), ((r 2), .inl ((kf 2), 24, .inl (fun _ => 0))), ((r 3), .inl ((kf 3), 24, .inl (fun _ => 0))), ((r 5), .inl ((kf 5), 24, .inl (fun _ => 0))), ((r 6), .inl ((kf 6), 24, .inl (fun _ => 0))), ((r 7), .inl ((kf 7), 24, .inl (fun _ => 0))), ((r 8), .inl ((kf 8), 8, .inl (fun _ => 0))), ((r 9), .inl ((kf 9), 8, .inl (fun _ => 0))), ((r 10), .inl ((kf 10), 8, .inl (fun _ => 0))), ((r 11), .inl ((kf 11), 8, .inl (fun _ => 0))), ((r 4), .inl ((kf 4), 24, .inl (fun _ => 0)))]) (w1 := [(h0, .inr (12, fsMk r (nI (2 + 1)) 1)), ((r 12), .inl ((kf 12), 300, .inl f_5))]) hP hD [12, 13] [0, 1, 2, 3, 4, 5, 6, 7, 8, 9, 10, 11] rfl rfl (by decide) (by decide) hk1 hFc hP1 hD1
  generalize H1 = H at hP hS ⊢
  have hP : va_P (dC, dI) vwCl [((r 0), .inl ((kf 0), 6, .inl (fun _ => 0))), ((r 1), .inl ((kf 1), 36, .inl (fun _ => 0))), ((r 2), .inl ((kf 2), 24, .inl (fun _ => 0))), ((r 3), .inl ((kf 3), 24, .inl (fun _ => 0))), ((r 5), .inl ((kf 5), 24, .inl (fun _ => 0))), ((r 6), .inl ((kf 6), 24, .inl (fun _ => 0))), ((r 7), .inl ((kf 7), 24, .inl (fun _ => 0))), ((r 8), .inl ((kf 8), 8, .inl (fun _ => 0))), ((r 9), .inl ((kf 9), 8, .inl (fun _ => 0))), ((r 10), .inl ((kf 10), 8, .inl (fun _ => 0))), ((r 11), .inl ((kf 11), 8, .inl (fun _ => 0))), ((r 4), .inl ((kf 4), 24, .inl (fun _ => 0))), (h0, .inr (12, fsMk r (nI (2 + 1)) 1)), ((r 12), .inl ((kf 12), 300, .inl f_5))] H := hP
  have hD : va_D A [((r 0), .inl ((kf 0), 6, .inl (fun _ => 0))), ((r 1), .inl ((kf 1), 36, .inl (fun _ => 0))), ((r 2), .inl ((kf 2), 24, .inl (fun _ => 0))), ((r 3), .inl ((kf 3), 24, .inl (fun _ => 0))), ((r 5), .inl ((kf 5), 24, .inl (fun _ => 0))), ((r 6), .inl ((kf 6), 24, .inl (fun _ => 0))), ((r 7), .inl ((kf 7), 24, .inl (fun _ => 0))), ((r 8), .inl ((kf 8), 8, .inl (fun _ => 0))), ((r 9), .inl ((kf 9), 8, .inl (fun _ => 0))), ((r 10), .inl ((kf 10), 8, .inl (fun _ => 0))), ((r 11), .inl ((kf 11), 8, .inl (fun _ => 0))), ((r 4), .inl ((kf 4), 24, .inl (fun _ => 0))), (h0, .inr (12, fsMk r (nI (2 + 1)) 1)), ((r 12), .inl ((kf 12), 300, .inl f_5))] := hD
  subst hw
  have hP : va_P (dC, dI) vwCl [((r 0), .inl ((kf 0), 6, .inl (fun _ => 0))), ((r 1), .inl ((kf 1), 36, .inl (fun _ => 0))), ((r 2), .inl ((kf 2), 24, .inl (fun _ => 0))), ((r 3), .inl ((kf 3), 24, .inl (fun _ => 0))), ((r 5), .inl ((kf 5), 24, .inl (fun _ => 0))), ((r 6), .inl ((kf 6), 24, .inl (fun _ => 0))), ((r 7), .inl ((kf 7), 24, .inl (fun _ => 0))), ((r 8), .inl ((kf 8), 8, .inl (fun _ => 0))), ((r 9), .inl ((kf 9), 8, .inl (fun _ => 0))), ((r 10), .inl ((kf 10), 8, .inl (fun _ => 0))), ((r 11), .inl ((kf 11), 8, .inl (fun _ => 0))), ((r 4), .inl ((kf 4), 24, .inl (fun _ => 0))), (h0, .inr (12, fsMk r (nI 3) 1)), ((r 12), .inl ((kf 12), 300, .inl f_5))] H := hP
  have hD : va_D A [((r 0), .inl ((kf 0), 6, .inl (fun _ => 0))), ((r 1), .inl ((kf 1), 36, .inl (fun _ => 0))), ((r 2), .inl ((kf 2), 24, .inl (fun _ => 0))), ((r 3), .inl ((kf 3), 24, .inl (fun _ => 0))), ((r 5), .inl ((kf 5), 24, .inl (fun _ => 0))), ((r 6), .inl ((kf 6), 24, .inl (fun _ => 0))), ((r 7), .inl ((kf 7), 24, .inl (fun _ => 0))), ((r 8), .inl ((kf 8), 8, .inl (fun _ => 0))), ((r 9), .inl ((kf 9), 8, .inl (fun _ => 0))), ((r 10), .inl ((kf 10), 8, .inl (fun _ => 0))), ((r 11), .inl ((kf 11), 8, .inl (fun _ => 0))), ((r 4), .inl ((kf 4), 24, .inl (fun _ => 0))), (h0, .inr (12, fsMk r (nI 3) 1)), ((r 12), .inl ((kf 12), 300, .inl f_5))] := hD
  refine va_put (D := (dC, dI)) (ci := 12) (v := .int 0) (ty := .int) (C := RX12) (T := TX12) (N := 57) hx hb hts (fun w h => List.mem_cons_of_mem _ (jnGB_X12 w h)) tyX12 tyX12_ok nmX12 hown hK hP hD hS 12 rfl rfl 2 (by decide) (hts _ (List.mem_cons_of_mem _ mGB_29)) (fun _ h9 => h9) rfl (by decide +kernel) rfl rfl (Nat.le_of_ble_eq_true rfl) dX12_movesAll_43 (fun H locs hP hD hS => ?_)
  have hP : va_P (dC, dI) vwCl [((r 0), .inl ((kf 0), 6, .inl (fun _ => 0))), ((r 1), .inl ((kf 1), 36, .inl (fun _ => 0))), ((r 2), .inl ((kf 2), 24, .inl (fun _ => 0))), ((r 3), .inl ((kf 3), 24, .inl (fun _ => 0))), ((r 5), .inl ((kf 5), 24, .inl (fun _ => 0))), ((r 6), .inl ((kf 6), 24, .inl (fun _ => 0))), ((r 7), .inl ((kf 7), 24, .inl (fun _ => 0))), ((r 8), .inl ((kf 8), 8, .inl (fun _ => 0))), ((r 9), .inl ((kf 9), 8, .inl (fun _ => 0))), ((r 10), .inl ((kf 10), 8, .inl (fun _ => 0))), ((r 11), .inl ((kf 11), 8, .inl (fun _ => 0))), ((r 4), .inl ((kf 4), 24, .inl (fun _ => 0))), (h0, .inr (12, [.int 0, .int 0, .int 0, .int 0, .int 0, .int 0, .int 0, .int 0, .ref (r 0), .ref (r 1), .int 0, .ref (r 2), .ref (r 3), .ref (r 4), .ref (r 5), .ref (r 6), .ref (r 7), .int 0, .ref (r 8), .ref (r 9), .ref (r 10), .ref (r 11), .ref (r 12), .int (nI 3), .int 1, .ref (r 13), .int 0, .int 0, .int (-1), .int 0, .int 0, .int 0, .int 0, .int 0, .ref (r 14), .ref (r 15), .ref (r 16), .int 0, .ref (r 17), .ref (r 18), .ref (r 19), .int 0, .int (-1), .int (-1), .int (-1), .int (-1), .ref (r 20), .int 0, .int 0, .int 0, .int 0, .int 0, .ref (r 21), .ref (r 22), .int 0, .ref (r 23), .int 0])), ((r 12), .inl ((kf 12), 300, .inl f_5))] H := hP
  have hD : va_D A [((r 0), .inl ((kf 0), 6, .inl (fun _ => 0))), ((r 1), .inl ((kf 1), 36, .inl (fun _ => 0))), ((r 2), .inl ((kf 2), 24, .inl (fun _ => 0))), ((r 3), .inl ((kf 3), 24, .inl (fun _ => 0))), ((r 5), .inl ((kf 5), 24, .inl (fun _ => 0))), ((r 6), .inl ((kf 6), 24, .inl (fun _ => 0))), ((r 7), .inl ((kf 7), 24, .inl (fun _ => 0))), ((r 8), .inl ((kf 8), 8, .inl (fun _ => 0))), ((r 9), .inl ((kf 9), 8, .inl (fun _ => 0))), ((r 10), .inl ((kf 10), 8, .inl (fun _ => 0))), ((r 11), .inl ((kf 11), 8, .inl (fun _ => 0))), ((r 4), .inl ((kf 4), 24, .inl (fun _ => 0))), (h0, .inr (12, [.int 0, .int 0, .int 0, .int 0, .int 0, .int 0, .int 0, .int 0, .ref (r 0), .ref (r 1), .int 0, .ref (r 2), .ref (r 3), .ref (r 4), .ref (r 5), .ref (r 6), .ref (r 7), .int 0, .ref (r 8), .ref (r 9), .ref (r 10), .ref (r 11), .ref (r 12), .int (nI 3), .int 1, .ref (r 13), .int 0, .int 0, .int (-1), .int 0, .int 0, .int 0, .int 0, .int 0, .ref (r 14), .ref (r 15), .ref (r 16), .int 0, .ref (r 17), .ref (r 18), .ref (r 19), .int 0, .int (-1), .int (-1), .int (-1), .int (-1), .ref (r 20), .int 0, .int 0, .int 0, .int 0, .int 0, .ref (r 21), .ref (r 22), .int 0, .ref (r 23), .int 0])), ((r 12), .inl ((kf 12), 300, .inl f_5))] := hD
  refine lv_aload_n hx hb dX12_movesAll_46 rfl (lv_at hl 0 rfl) ?_
  refine lv_aload_n hx hb dX12_movesAll_47 rfl (lv_at hl 0 rfl) ?_
  refine lv_aload_n hx hb dX12_movesAll_48 rfl (lv_at hl 0 rfl) ?_
  refine va_get (D := (dC, dI)) (ci := 12) (v := .int 0) (C := RX12) (T := TX12) (N := 57) hx hb hts (fun w h => List.mem_cons_of_mem _ (jnGB_X12 w h)) hown hK hP 12 rfl rfl 3 (by decide) (hts _ (List.mem_cons_of_mem _ mGB_0)) (fun _ h9 => h9) rfl dX12_movesAll_49 ?_
  have hP : va_P (dC, dI) vwCl [((r 0), .inl ((kf 0), 6, .inl (fun _ => 0))), ((r 1), .inl ((kf 1), 36, .inl (fun _ => 0))), ((r 2), .inl ((kf 2), 24, .inl (fun _ => 0))), ((r 3), .inl ((kf 3), 24, .inl (fun _ => 0))), ((r 5), .inl ((kf 5), 24, .inl (fun _ => 0))), ((r 6), .inl ((kf 6), 24, .inl (fun _ => 0))), ((r 7), .inl ((kf 7), 24, .inl (fun _ => 0))), ((r 8), .inl ((kf 8), 8, .inl (fun _ => 0))), ((r 9), .inl ((kf 9), 8, .inl (fun _ => 0))), ((r 10), .inl ((kf 10), 8, .inl (fun _ => 0))), ((r 11), .inl ((kf 11), 8, .inl (fun _ => 0))), ((r 4), .inl ((kf 4), 24, .inl (fun _ => 0))), (h0, .inr (12, fsMk r (nI 3) 1)), ((r 12), .inl ((kf 12), 300, .inl f_5))] H := hP
  have hD : va_D A [((r 0), .inl ((kf 0), 6, .inl (fun _ => 0))), ((r 1), .inl ((kf 1), 36, .inl (fun _ => 0))), ((r 2), .inl ((kf 2), 24, .inl (fun _ => 0))), ((r 3), .inl ((kf 3), 24, .inl (fun _ => 0))), ((r 5), .inl ((kf 5), 24, .inl (fun _ => 0))), ((r 6), .inl ((kf 6), 24, .inl (fun _ => 0))), ((r 7), .inl ((kf 7), 24, .inl (fun _ => 0))), ((r 8), .inl ((kf 8), 8, .inl (fun _ => 0))), ((r 9), .inl ((kf 9), 8, .inl (fun _ => 0))), ((r 10), .inl ((kf 10), 8, .inl (fun _ => 0))), ((r 11), .inl ((kf 11), 8, .inl (fun _ => 0))), ((r 4), .inl ((kf 4), 24, .inl (fun _ => 0))), (h0, .inr (12, fsMk r (nI 3) 1)), ((r 12), .inl ((kf 12), 300, .inl f_5))] := hD
  have hPc := hP.sub (ws' := [(h0, .inr (12, fsMk r (nI 3) 1)), ((r 12), .inl ((kf 12), 300, .inl f_5))]) [12, 13] rfl
  have hDc := hD.sub (ws' := [(h0, .inr (12, fsMk r (nI 3) 1)), ((r 12), .inl ((kf 12), 300, .inl f_5))]) [12, 13] (by decide) rfl
  have hKc := hK.sub (tys' := [((kf 12), .int)]) [12] rfl
  have hFc := va_free (wc := [(h0, .inr (12, fsMk r (nI 3) 1)), ((r 12), .inl ((kf 12), 300, .inl f_5))]) hD hS hA [12, 13] rfl
  refine va_calli (va_runV (As := [.int 0]) (rest := [.ref h0]) ⟨hx, hb, hml, hown, hts⟩ (fX12_moves l dC dI H.size h0 r kf 3 f_5 0 (by decide)) (cwV 1 hts (gz_gV mGB_70 mGB_71 mGB_72 mGB_5 mGB_69 goodGB) rfl rfl rfl (by decide +kernel) ⟨Nat.le_of_ble_eq_true rfl, Nat.le_of_ble_eq_true rfl⟩) ⟨fun a U g mk q => by obtain ⟨q0, q1, qP, qK, qD⟩ := q; exact ⟨q0, q1, qP, va_K.moved (u := U) (U := U.calling g mk a) (Vm.Alike.refl U.vm) qK, qD⟩, va_recv hKc hPc (ci := 12) (q0 := 0) rfl rfl, fun U hU hW => ⟨rfl, by rw [hU], by rw [hU]; exact hPc, va_K.moved hW.alike hKc, hDc.weaken (fun _ _ _ _ => trivial)⟩⟩ rfl rfl hl.1 rfl (lv_room (Nat.le_of_ble_eq_true rfl)) dX12_movesAll_52 ⟨Nat.le_of_ble_eq_true rfl, Nat.le_of_ble_eq_true rfl⟩) hS (fun q _ h => hFc q h) hFc (fun r_8 u t H1 locs ht hvm hw hB hz1 hk1 hS => ?_)
  obtain ⟨f_7, hP1, hK1, hD1⟩ := hB
  rw [ht] at hP1
  have hK1 := va_K.moved hvm.symm hK1
  obtain ⟨hP, hD⟩ := va_join (wr := [((r 0), .inl ((kf 0), 6, .inl (fun _ => 0))), ((r 1), .inl ((kf 1), 36, .inl (fun _ => 0))), ((r 2), .inl ((kf 2), 24, .inl (fun _ => 0))), ((r 3), .inl ((kf 3), 24, .inl (fun _ => 0))), ((r 5), .inl ((kf 5), 24, .inl (fun _ => 0))), ((r 6), .inl ((kf 6), 24, .inl (fun _ => 0))), ((r 7), .inl ((kf 7), 24, .inl (fun _ => 0))), ((r 8), .inl ((kf 8), 8, .inl (fun _ => 0))), ((r 9), .inl ((kf 9), 8, .inl (fun _ => 0))), ((r 10), .inl ((kf 10), 8, .inl (fun _ => 0))), ((r 11), .inl ((kf 11), 8, .inl (fun _ => 0))), ((r 4), .inl ((kf 4), 24, .inl (fun _ => 0)))]) (w1 := [(h0, .inr (12, fsMk r (nI (3 + 1)) 1)), ((r 12), .inl ((kf 12), 300, .inl f_7))]) hP hD [12, 13] [0, 1, 2, 3, 4, 5, 6, 7, 8, 9, 10, 11] rfl rfl (by decide) (by decide) hk1 hFc hP1 hD1
  generalize H1 = H at hP hS ⊢
  have hP : va_P (dC, dI) vwCl [((r 0), .inl ((kf 0), 6, .inl (fun _ => 0))), ((r 1), .inl ((kf 1), 36, .inl (fun _ => 0))), ((r 2), .inl ((kf 2), 24, .inl (fun _ => 0))), ((r 3), .inl ((kf 3), 24, .inl (fun _ => 0))), ((r 5), .inl ((kf 5), 24, .inl (fun _ => 0))), ((r 6), .inl ((kf 6), 24, .inl (fun _ => 0))), ((r 7), .inl ((kf 7), 24, .inl (fun _ => 0))), ((r 8), .inl ((kf 8), 8, .inl (fun _ => 0))), ((r 9), .inl ((kf 9), 8, .inl (fun _ => 0))), ((r 10), .inl ((kf 10), 8, .inl (fun _ => 0))), ((r 11), .inl ((kf 11), 8, .inl (fun _ => 0))), ((r 4), .inl ((kf 4), 24, .inl (fun _ => 0))), (h0, .inr (12, fsMk r (nI (3 + 1)) 1)), ((r 12), .inl ((kf 12), 300, .inl f_7))] H := hP
  have hD : va_D A [((r 0), .inl ((kf 0), 6, .inl (fun _ => 0))), ((r 1), .inl ((kf 1), 36, .inl (fun _ => 0))), ((r 2), .inl ((kf 2), 24, .inl (fun _ => 0))), ((r 3), .inl ((kf 3), 24, .inl (fun _ => 0))), ((r 5), .inl ((kf 5), 24, .inl (fun _ => 0))), ((r 6), .inl ((kf 6), 24, .inl (fun _ => 0))), ((r 7), .inl ((kf 7), 24, .inl (fun _ => 0))), ((r 8), .inl ((kf 8), 8, .inl (fun _ => 0))), ((r 9), .inl ((kf 9), 8, .inl (fun _ => 0))), ((r 10), .inl ((kf 10), 8, .inl (fun _ => 0))), ((r 11), .inl ((kf 11), 8, .inl (fun _ => 0))), ((r 4), .inl ((kf 4), 24, .inl (fun _ => 0))), (h0, .inr (12, fsMk r (nI (3 + 1)) 1)), ((r 12), .inl ((kf 12), 300, .inl f_7))] := hD
  subst hw
  have hP : va_P (dC, dI) vwCl [((r 0), .inl ((kf 0), 6, .inl (fun _ => 0))), ((r 1), .inl ((kf 1), 36, .inl (fun _ => 0))), ((r 2), .inl ((kf 2), 24, .inl (fun _ => 0))), ((r 3), .inl ((kf 3), 24, .inl (fun _ => 0))), ((r 5), .inl ((kf 5), 24, .inl (fun _ => 0))), ((r 6), .inl ((kf 6), 24, .inl (fun _ => 0))), ((r 7), .inl ((kf 7), 24, .inl (fun _ => 0))), ((r 8), .inl ((kf 8), 8, .inl (fun _ => 0))), ((r 9), .inl ((kf 9), 8, .inl (fun _ => 0))), ((r 10), .inl ((kf 10), 8, .inl (fun _ => 0))), ((r 11), .inl ((kf 11), 8, .inl (fun _ => 0))), ((r 4), .inl ((kf 4), 24, .inl (fun _ => 0))), (h0, .inr (12, fsMk r (nI 4) 1)), ((r 12), .inl ((kf 12), 300, .inl f_7))] H := hP
  have hD : va_D A [((r 0), .inl ((kf 0), 6, .inl (fun _ => 0))), ((r 1), .inl ((kf 1), 36, .inl (fun _ => 0))), ((r 2), .inl ((kf 2), 24, .inl (fun _ => 0))), ((r 3), .inl ((kf 3), 24, .inl (fun _ => 0))), ((r 5), .inl ((kf 5), 24, .inl (fun _ => 0))), ((r 6), .inl ((kf 6), 24, .inl (fun _ => 0))), ((r 7), .inl ((kf 7), 24, .inl (fun _ => 0))), ((r 8), .inl ((kf 8), 8, .inl (fun _ => 0))), ((r 9), .inl ((kf 9), 8, .inl (fun _ => 0))), ((r 10), .inl ((kf 10), 8, .inl (fun _ => 0))), ((r 11), .inl ((kf 11), 8, .inl (fun _ => 0))), ((r 4), .inl ((kf 4), 24, .inl (fun _ => 0))), (h0, .inr (12, fsMk r (nI 4) 1)), ((r 12), .inl ((kf 12), 300, .inl f_7))] := hD
  refine va_put (D := (dC, dI)) (ci := 12) (v := .int 0) (ty := .int) (C := RX12) (T := TX12) (N := 57) hx hb hts (fun w h => List.mem_cons_of_mem _ (jnGB_X12 w h)) tyX12 tyX12_ok nmX12 hown hK hP hD hS 12 rfl rfl 3 (by decide) (hts _ (List.mem_cons_of_mem _ mGB_0)) (fun _ h9 => h9) rfl (by decide +kernel) rfl rfl (Nat.le_of_ble_eq_true rfl) dX12_movesAll_55 (fun H locs hP hD hS => ?_)
  have hP : va_P (dC, dI) vwCl [((r 0), .inl ((kf 0), 6, .inl (fun _ => 0))), ((r 1), .inl ((kf 1), 36, .inl (fun _ => 0))), ((r 2), .inl ((kf 2), 24, .inl (fun _ => 0))), ((r 3), .inl ((kf 3), 24, .inl (fun _ => 0))), ((r 5), .inl ((kf 5), 24, .inl (fun _ => 0))), ((r 6), .inl ((kf 6), 24, .inl (fun _ => 0))), ((r 7), .inl ((kf 7), 24, .inl (fun _ => 0))), ((r 8), .inl ((kf 8), 8, .inl (fun _ => 0))), ((r 9), .inl ((kf 9), 8, .inl (fun _ => 0))), ((r 10), .inl ((kf 10), 8, .inl (fun _ => 0))), ((r 11), .inl ((kf 11), 8, .inl (fun _ => 0))), ((r 4), .inl ((kf 4), 24, .inl (fun _ => 0))), (h0, .inr (12, [.int 0, .int 0, .int 0, .int 0, .int 0, .int 0, .int 0, .int 0, .ref (r 0), .ref (r 1), .int 0, .ref (r 2), .ref (r 3), .ref (r 4), .ref (r 5), .ref (r 6), .ref (r 7), .int 0, .ref (r 8), .ref (r 9), .ref (r 10), .ref (r 11), .ref (r 12), .int (nI 4), .int 1, .ref (r 13), .int 0, .int 0, .int (-1), .int 0, .int 0, .int 0, .int 0, .int 0, .ref (r 14), .ref (r 15), .ref (r 16), .int 0, .ref (r 17), .ref (r 18), .ref (r 19), .int 0, .int (-1), .int (-1), .int (-1), .int (-1), .ref (r 20), .int 0, .int 0, .int 0, .int 0, .int 0, .ref (r 21), .ref (r 22), .int 0, .ref (r 23), .int 0])), ((r 12), .inl ((kf 12), 300, .inl f_7))] H := hP
  have hD : va_D A [((r 0), .inl ((kf 0), 6, .inl (fun _ => 0))), ((r 1), .inl ((kf 1), 36, .inl (fun _ => 0))), ((r 2), .inl ((kf 2), 24, .inl (fun _ => 0))), ((r 3), .inl ((kf 3), 24, .inl (fun _ => 0))), ((r 5), .inl ((kf 5), 24, .inl (fun _ => 0))), ((r 6), .inl ((kf 6), 24, .inl (fun _ => 0))), ((r 7), .inl ((kf 7), 24, .inl (fun _ => 0))), ((r 8), .inl ((kf 8), 8, .inl (fun _ => 0))), ((r 9), .inl ((kf 9), 8, .inl (fun _ => 0))), ((r 10), .inl ((kf 10), 8, .inl (fun _ => 0))), ((r 11), .inl ((kf 11), 8, .inl (fun _ => 0))), ((r 4), .inl ((kf 4), 24, .inl (fun _ => 0))), (h0, .inr (12, [.int 0, .int 0, .int 0, .int 0, .int 0, .int 0, .int 0, .int 0, .ref (r 0), .ref (r 1), .int 0, .ref (r 2), .ref (r 3), .ref (r 4), .ref (r 5), .ref (r 6), .ref (r 7), .int 0, .ref (r 8), .ref (r 9), .ref (r 10), .ref (r 11), .ref (r 12), .int (nI 4), .int 1, .ref (r 13), .int 0, .int 0, .int (-1), .int 0, .int 0, .int 0, .int 0, .int 0, .ref (r 14), .ref (r 15), .ref (r 16), .int 0, .ref (r 17), .ref (r 18), .ref (r 19), .int 0, .int (-1), .int (-1), .int (-1), .int (-1), .ref (r 20), .int 0, .int 0, .int 0, .int 0, .int 0, .ref (r 21), .ref (r 22), .int 0, .ref (r 23), .int 0])), ((r 12), .inl ((kf 12), 300, .inl f_7))] := hD
  refine lv_aload_n hx hb dX12_movesAll_58 rfl (lv_at hl 0 rfl) ?_
  refine lv_aload_n hx hb dX12_movesAll_59 rfl (lv_at hl 0 rfl) ?_
  refine lv_aload_n hx hb dX12_movesAll_60 rfl (lv_at hl 0 rfl) ?_
  refine va_get (D := (dC, dI)) (ci := 12) (v := .int 0) (C := RX12) (T := TX12) (N := 57) hx hb hts (fun w h => List.mem_cons_of_mem _ (jnGB_X12 w h)) hown hK hP 12 rfl rfl 4 (by decide) (hts _ (List.mem_cons_of_mem _ mGB_20)) (fun _ h9 => h9) rfl dX12_movesAll_61 ?_
  refine lv_if_eq (tgt := 71) hx hb dX12_movesAll_64 (by decide) (fun c_9 => ?_) (fun c_9 => absurd (by decide) c_9)
  refine lv_iconst (v := 0) hx hb dX12_movesAll_71 (by decide) ?_
  have hP : va_P (dC, dI) vwCl [((r 0), .inl ((kf 0), 6, .inl (fun _ => 0))), ((r 1), .inl ((kf 1), 36, .inl (fun _ => 0))), ((r 2), .inl ((kf 2), 24, .inl (fun _ => 0))), ((r 3), .inl ((kf 3), 24, .inl (fun _ => 0))), ((r 5), .inl ((kf 5), 24, .inl (fun _ => 0))), ((r 6), .inl ((kf 6), 24, .inl (fun _ => 0))), ((r 7), .inl ((kf 7), 24, .inl (fun _ => 0))), ((r 8), .inl ((kf 8), 8, .inl (fun _ => 0))), ((r 9), .inl ((kf 9), 8, .inl (fun _ => 0))), ((r 10), .inl ((kf 10), 8, .inl (fun _ => 0))), ((r 11), .inl ((kf 11), 8, .inl (fun _ => 0))), ((r 4), .inl ((kf 4), 24, .inl (fun _ => 0))), (h0, .inr (12, fsMk r (nI 4) 1)), ((r 12), .inl ((kf 12), 300, .inl f_7))] H := hP
  have hD : va_D A [((r 0), .inl ((kf 0), 6, .inl (fun _ => 0))), ((r 1), .inl ((kf 1), 36, .inl (fun _ => 0))), ((r 2), .inl ((kf 2), 24, .inl (fun _ => 0))), ((r 3), .inl ((kf 3), 24, .inl (fun _ => 0))), ((r 5), .inl ((kf 5), 24, .inl (fun _ => 0))), ((r 6), .inl ((kf 6), 24, .inl (fun _ => 0))), ((r 7), .inl ((kf 7), 24, .inl (fun _ => 0))), ((r 8), .inl ((kf 8), 8, .inl (fun _ => 0))), ((r 9), .inl ((kf 9), 8, .inl (fun _ => 0))), ((r 10), .inl ((kf 10), 8, .inl (fun _ => 0))), ((r 11), .inl ((kf 11), 8, .inl (fun _ => 0))), ((r 4), .inl ((kf 4), 24, .inl (fun _ => 0))), (h0, .inr (12, fsMk r (nI 4) 1)), ((r 12), .inl ((kf 12), 300, .inl f_7))] := hD
  have hPc := hP.sub (ws' := [(h0, .inr (12, fsMk r (nI 4) 1)), ((r 12), .inl ((kf 12), 300, .inl f_7))]) [12, 13] rfl
  have hDc := hD.sub (ws' := [(h0, .inr (12, fsMk r (nI 4) 1)), ((r 12), .inl ((kf 12), 300, .inl f_7))]) [12, 13] (by decide) rfl
  have hKc := hK.sub (tys' := [((kf 12), .int)]) [12] rfl
  have hFc := va_free (wc := [(h0, .inr (12, fsMk r (nI 4) 1)), ((r 12), .inl ((kf 12), 300, .inl f_7))]) hD hS hA [12, 13] rfl
  refine va_calli (va_runV (As := [.int 0]) (rest := [.ref h0]) ⟨hx, hb, hml, hown, hts⟩ (fX12_moves l dC dI H.size h0 r kf 4 f_7 0 (by decide)) (cwV 1 hts (gz_gV mGB_70 mGB_71 mGB_72 mGB_5 mGB_69 goodGB) rfl rfl rfl (by decide +kernel) ⟨Nat.le_of_ble_eq_true rfl, Nat.le_of_ble_eq_true rfl⟩) ⟨fun a U g mk q => by obtain ⟨q0, q1, qP, qK, qD⟩ := q; exact ⟨q0, q1, qP, va_K.moved (u := U) (U := U.calling g mk a) (Vm.Alike.refl U.vm) qK, qD⟩, va_recv hKc hPc (ci := 12) (q0 := 0) rfl rfl, fun U hU hW => ⟨rfl, by rw [hU], by rw [hU]; exact hPc, va_K.moved hW.alike hKc, hDc.weaken (fun _ _ _ _ => trivial)⟩⟩ rfl rfl hl.1 rfl (lv_room (Nat.le_of_ble_eq_true rfl)) dX12_movesAll_72 ⟨Nat.le_of_ble_eq_true rfl, Nat.le_of_ble_eq_true rfl⟩) hS (fun q _ h => hFc q h) hFc (fun r_11 u t H1 locs ht hvm hw hB hz1 hk1 hS => ?_)
  obtain ⟨f_10, hP1, hK1, hD1⟩ := hB
  rw [ht] at hP1
  have hK1 := va_K.moved hvm.symm hK1
  obtain ⟨hP, hD⟩ := va_join (wr := [((r 0), .inl ((kf 0), 6, .inl (fun _ => 0))), ((r 1), .inl ((kf 1), 36, .inl (fun _ => 0))), ((r 2), .inl ((kf 2), 24, .inl (fun _ => 0))), ((r 3), .inl ((kf 3), 24, .inl (fun _ => 0))), ((r 5), .inl ((kf 5), 24, .inl (fun _ => 0))), ((r 6), .inl ((kf 6), 24, .inl (fun _ => 0))), ((r 7), .inl ((kf 7), 24, .inl (fun _ => 0))), ((r 8), .inl ((kf 8), 8, .inl (fun _ => 0))), ((r 9), .inl ((kf 9), 8, .inl (fun _ => 0))), ((r 10), .inl ((kf 10), 8, .inl (fun _ => 0))), ((r 11), .inl ((kf 11), 8, .inl (fun _ => 0))), ((r 4), .inl ((kf 4), 24, .inl (fun _ => 0)))]) (w1 := [(h0, .inr (12, fsMk r (nI (4 + 1)) 1)), ((r 12), .inl ((kf 12), 300, .inl f_10))]) hP hD [12, 13] [0, 1, 2, 3, 4, 5, 6, 7, 8, 9, 10, 11] rfl rfl (by decide) (by decide) hk1 hFc hP1 hD1
  generalize H1 = H at hP hS ⊢
  have hP : va_P (dC, dI) vwCl [((r 0), .inl ((kf 0), 6, .inl (fun _ => 0))), ((r 1), .inl ((kf 1), 36, .inl (fun _ => 0))), ((r 2), .inl ((kf 2), 24, .inl (fun _ => 0))), ((r 3), .inl ((kf 3), 24, .inl (fun _ => 0))), ((r 5), .inl ((kf 5), 24, .inl (fun _ => 0))), ((r 6), .inl ((kf 6), 24, .inl (fun _ => 0))), ((r 7), .inl ((kf 7), 24, .inl (fun _ => 0))), ((r 8), .inl ((kf 8), 8, .inl (fun _ => 0))), ((r 9), .inl ((kf 9), 8, .inl (fun _ => 0))), ((r 10), .inl ((kf 10), 8, .inl (fun _ => 0))), ((r 11), .inl ((kf 11), 8, .inl (fun _ => 0))), ((r 4), .inl ((kf 4), 24, .inl (fun _ => 0))), (h0, .inr (12, fsMk r (nI (4 + 1)) 1)), ((r 12), .inl ((kf 12), 300, .inl f_10))] H := hP
  have hD : va_D A [((r 0), .inl ((kf 0), 6, .inl (fun _ => 0))), ((r 1), .inl ((kf 1), 36, .inl (fun _ => 0))), ((r 2), .inl ((kf 2), 24, .inl (fun _ => 0))), ((r 3), .inl ((kf 3), 24, .inl (fun _ => 0))), ((r 5), .inl ((kf 5), 24, .inl (fun _ => 0))), ((r 6), .inl ((kf 6), 24, .inl (fun _ => 0))), ((r 7), .inl ((kf 7), 24, .inl (fun _ => 0))), ((r 8), .inl ((kf 8), 8, .inl (fun _ => 0))), ((r 9), .inl ((kf 9), 8, .inl (fun _ => 0))), ((r 10), .inl ((kf 10), 8, .inl (fun _ => 0))), ((r 11), .inl ((kf 11), 8, .inl (fun _ => 0))), ((r 4), .inl ((kf 4), 24, .inl (fun _ => 0))), (h0, .inr (12, fsMk r (nI (4 + 1)) 1)), ((r 12), .inl ((kf 12), 300, .inl f_10))] := hD
  subst hw
  have hP : va_P (dC, dI) vwCl [((r 0), .inl ((kf 0), 6, .inl (fun _ => 0))), ((r 1), .inl ((kf 1), 36, .inl (fun _ => 0))), ((r 2), .inl ((kf 2), 24, .inl (fun _ => 0))), ((r 3), .inl ((kf 3), 24, .inl (fun _ => 0))), ((r 5), .inl ((kf 5), 24, .inl (fun _ => 0))), ((r 6), .inl ((kf 6), 24, .inl (fun _ => 0))), ((r 7), .inl ((kf 7), 24, .inl (fun _ => 0))), ((r 8), .inl ((kf 8), 8, .inl (fun _ => 0))), ((r 9), .inl ((kf 9), 8, .inl (fun _ => 0))), ((r 10), .inl ((kf 10), 8, .inl (fun _ => 0))), ((r 11), .inl ((kf 11), 8, .inl (fun _ => 0))), ((r 4), .inl ((kf 4), 24, .inl (fun _ => 0))), (h0, .inr (12, fsMk r (nI 5) 1)), ((r 12), .inl ((kf 12), 300, .inl f_10))] H := hP
  have hD : va_D A [((r 0), .inl ((kf 0), 6, .inl (fun _ => 0))), ((r 1), .inl ((kf 1), 36, .inl (fun _ => 0))), ((r 2), .inl ((kf 2), 24, .inl (fun _ => 0))), ((r 3), .inl ((kf 3), 24, .inl (fun _ => 0))), ((r 5), .inl ((kf 5), 24, .inl (fun _ => 0))), ((r 6), .inl ((kf 6), 24, .inl (fun _ => 0))), ((r 7), .inl ((kf 7), 24, .inl (fun _ => 0))), ((r 8), .inl ((kf 8), 8, .inl (fun _ => 0))), ((r 9), .inl ((kf 9), 8, .inl (fun _ => 0))), ((r 10), .inl ((kf 10), 8, .inl (fun _ => 0))), ((r 11), .inl ((kf 11), 8, .inl (fun _ => 0))), ((r 4), .inl ((kf 4), 24, .inl (fun _ => 0))), (h0, .inr (12, fsMk r (nI 5) 1)), ((r 12), .inl ((kf 12), 300, .inl f_10))] := hD
  refine lv_iconst (v := 1) hx hb dX12_movesAll_75 (by decide) ?_
  refine lv_icmp_ne (tgt := 83) hx hb dX12_movesAll_76 (by decide) (fun c_12 => ?_) (fun c_12 => absurd c_12 (by decide))
  refine lv_iconst (v := 0) hx hb dX12_movesAll_83 (by decide) ?_
  refine va_put (D := (dC, dI)) (ci := 12) (v := .int 0) (ty := .boolean) (C := RX12) (T := TX12) (N := 57) hx hb hts (fun w h => List.mem_cons_of_mem _ (jnGB_X12 w h)) tyX12 tyX12_ok nmX12 hown hK hP hD hS 12 rfl rfl 4 (by decide) (hts _ (List.mem_cons_of_mem _ mGB_20)) (fun _ h9 => h9) rfl (by decide +kernel) rfl rfl (Nat.le_of_ble_eq_true rfl) dX12_movesAll_84 (fun H locs hP hD hS => ?_)
  have hP : va_P (dC, dI) vwCl [((r 0), .inl ((kf 0), 6, .inl (fun _ => 0))), ((r 1), .inl ((kf 1), 36, .inl (fun _ => 0))), ((r 2), .inl ((kf 2), 24, .inl (fun _ => 0))), ((r 3), .inl ((kf 3), 24, .inl (fun _ => 0))), ((r 5), .inl ((kf 5), 24, .inl (fun _ => 0))), ((r 6), .inl ((kf 6), 24, .inl (fun _ => 0))), ((r 7), .inl ((kf 7), 24, .inl (fun _ => 0))), ((r 8), .inl ((kf 8), 8, .inl (fun _ => 0))), ((r 9), .inl ((kf 9), 8, .inl (fun _ => 0))), ((r 10), .inl ((kf 10), 8, .inl (fun _ => 0))), ((r 11), .inl ((kf 11), 8, .inl (fun _ => 0))), ((r 4), .inl ((kf 4), 24, .inl (fun _ => 0))), (h0, .inr (12, [.int 0, .int 0, .int 0, .int 0, .int 0, .int 0, .int 0, .int 0, .ref (r 0), .ref (r 1), .int 0, .ref (r 2), .ref (r 3), .ref (r 4), .ref (r 5), .ref (r 6), .ref (r 7), .int 0, .ref (r 8), .ref (r 9), .ref (r 10), .ref (r 11), .ref (r 12), .int (nI 5), .int 1, .ref (r 13), .int 0, .int 0, .int (-1), .int 0, .int 0, .int 0, .int 0, .int 0, .ref (r 14), .ref (r 15), .ref (r 16), .int 0, .ref (r 17), .ref (r 18), .ref (r 19), .int 0, .int (-1), .int (-1), .int (-1), .int (-1), .ref (r 20), .int 0, .int 0, .int 0, .int 0, .int 0, .ref (r 21), .ref (r 22), .int 0, .ref (r 23), .int 0])), ((r 12), .inl ((kf 12), 300, .inl f_10))] H := hP
  have hD : va_D A [((r 0), .inl ((kf 0), 6, .inl (fun _ => 0))), ((r 1), .inl ((kf 1), 36, .inl (fun _ => 0))), ((r 2), .inl ((kf 2), 24, .inl (fun _ => 0))), ((r 3), .inl ((kf 3), 24, .inl (fun _ => 0))), ((r 5), .inl ((kf 5), 24, .inl (fun _ => 0))), ((r 6), .inl ((kf 6), 24, .inl (fun _ => 0))), ((r 7), .inl ((kf 7), 24, .inl (fun _ => 0))), ((r 8), .inl ((kf 8), 8, .inl (fun _ => 0))), ((r 9), .inl ((kf 9), 8, .inl (fun _ => 0))), ((r 10), .inl ((kf 10), 8, .inl (fun _ => 0))), ((r 11), .inl ((kf 11), 8, .inl (fun _ => 0))), ((r 4), .inl ((kf 4), 24, .inl (fun _ => 0))), (h0, .inr (12, [.int 0, .int 0, .int 0, .int 0, .int 0, .int 0, .int 0, .int 0, .ref (r 0), .ref (r 1), .int 0, .ref (r 2), .ref (r 3), .ref (r 4), .ref (r 5), .ref (r 6), .ref (r 7), .int 0, .ref (r 8), .ref (r 9), .ref (r 10), .ref (r 11), .ref (r 12), .int (nI 5), .int 1, .ref (r 13), .int 0, .int 0, .int (-1), .int 0, .int 0, .int 0, .int 0, .int 0, .ref (r 14), .ref (r 15), .ref (r 16), .int 0, .ref (r 17), .ref (r 18), .ref (r 19), .int 0, .int (-1), .int (-1), .int (-1), .int (-1), .ref (r 20), .int 0, .int 0, .int 0, .int 0, .int 0, .ref (r 21), .ref (r 22), .int 0, .ref (r 23), .int 0])), ((r 12), .inl ((kf 12), 300, .inl f_10))] := hD
  refine lv_aload_n hx hb dX12_movesAll_87 rfl (lv_at hl 0 rfl) ?_
  refine lv_aload_n hx hb dX12_movesAll_88 rfl (lv_at hl 0 rfl) ?_
  refine lv_aload_n hx hb dX12_movesAll_89 rfl (lv_at hl 0 rfl) ?_
  refine va_get (D := (dC, dI)) (ci := 12) (v := .int 0) (C := RX12) (T := TX12) (N := 57) hx hb hts (fun w h => List.mem_cons_of_mem _ (jnGB_X12 w h)) hown hK hP 12 rfl rfl 5 (by decide) (hts _ (List.mem_cons_of_mem _ mGB_32)) (fun _ h9 => h9) rfl dX12_movesAll_90 ?_
  have hP : va_P (dC, dI) vwCl [((r 0), .inl ((kf 0), 6, .inl (fun _ => 0))), ((r 1), .inl ((kf 1), 36, .inl (fun _ => 0))), ((r 2), .inl ((kf 2), 24, .inl (fun _ => 0))), ((r 3), .inl ((kf 3), 24, .inl (fun _ => 0))), ((r 5), .inl ((kf 5), 24, .inl (fun _ => 0))), ((r 6), .inl ((kf 6), 24, .inl (fun _ => 0))), ((r 7), .inl ((kf 7), 24, .inl (fun _ => 0))), ((r 8), .inl ((kf 8), 8, .inl (fun _ => 0))), ((r 9), .inl ((kf 9), 8, .inl (fun _ => 0))), ((r 10), .inl ((kf 10), 8, .inl (fun _ => 0))), ((r 11), .inl ((kf 11), 8, .inl (fun _ => 0))), ((r 4), .inl ((kf 4), 24, .inl (fun _ => 0))), (h0, .inr (12, fsMk r (nI 5) 1)), ((r 12), .inl ((kf 12), 300, .inl f_10))] H := hP
  have hD : va_D A [((r 0), .inl ((kf 0), 6, .inl (fun _ => 0))), ((r 1), .inl ((kf 1), 36, .inl (fun _ => 0))), ((r 2), .inl ((kf 2), 24, .inl (fun _ => 0))), ((r 3), .inl ((kf 3), 24, .inl (fun _ => 0))), ((r 5), .inl ((kf 5), 24, .inl (fun _ => 0))), ((r 6), .inl ((kf 6), 24, .inl (fun _ => 0))), ((r 7), .inl ((kf 7), 24, .inl (fun _ => 0))), ((r 8), .inl ((kf 8), 8, .inl (fun _ => 0))), ((r 9), .inl ((kf 9), 8, .inl (fun _ => 0))), ((r 10), .inl ((kf 10), 8, .inl (fun _ => 0))), ((r 11), .inl ((kf 11), 8, .inl (fun _ => 0))), ((r 4), .inl ((kf 4), 24, .inl (fun _ => 0))), (h0, .inr (12, fsMk r (nI 5) 1)), ((r 12), .inl ((kf 12), 300, .inl f_10))] := hD
  have hPc := hP.sub (ws' := [(h0, .inr (12, fsMk r (nI 5) 1)), ((r 12), .inl ((kf 12), 300, .inl f_10))]) [12, 13] rfl
  have hDc := hD.sub (ws' := [(h0, .inr (12, fsMk r (nI 5) 1)), ((r 12), .inl ((kf 12), 300, .inl f_10))]) [12, 13] (by decide) rfl
  have hKc := hK.sub (tys' := [((kf 12), .int)]) [12] rfl
  have hFc := va_free (wc := [(h0, .inr (12, fsMk r (nI 5) 1)), ((r 12), .inl ((kf 12), 300, .inl f_10))]) hD hS hA [12, 13] rfl
  refine va_calli (va_runV (As := [.int 0]) (rest := [.ref h0]) ⟨hx, hb, hml, hown, hts⟩ (fX12_moves l dC dI H.size h0 r kf 5 f_10 0 (by decide)) (cwV 1 hts (gz_gV mGB_70 mGB_71 mGB_72 mGB_5 mGB_69 goodGB) rfl rfl rfl (by decide +kernel) ⟨Nat.le_of_ble_eq_true rfl, Nat.le_of_ble_eq_true rfl⟩) ⟨fun a U g mk q => by obtain ⟨q0, q1, qP, qK, qD⟩ := q; exact ⟨q0, q1, qP, va_K.moved (u := U) (U := U.calling g mk a) (Vm.Alike.refl U.vm) qK, qD⟩, va_recv hKc hPc (ci := 12) (q0 := 0) rfl rfl, fun U hU hW => ⟨rfl, by rw [hU], by rw [hU]; exact hPc, va_K.moved hW.alike hKc, hDc.weaken (fun _ _ _ _ => trivial)⟩⟩ rfl rfl hl.1 rfl (lv_room (Nat.le_of_ble_eq_true rfl)) dX12_movesAll_93 ⟨Nat.le_of_ble_eq_true rfl, Nat.le_of_ble_eq_true rfl⟩) hS (fun q _ h => hFc q h) hFc (fun r_14 u t H1 locs ht hvm hw hB hz1 hk1 hS => ?_)
  obtain ⟨f_13, hP1, hK1, hD1⟩ := hB
  rw [ht] at hP1
  have hK1 := va_K.moved hvm.symm hK1
  obtain ⟨hP, hD⟩ := va_join (wr := [((r 0), .inl ((kf 0), 6, .inl (fun _ => 0))), ((r 1), .inl ((kf 1), 36, .inl (fun _ => 0))), ((r 2), .inl ((kf 2), 24, .inl (fun _ => 0))), ((r 3), .inl ((kf 3), 24, .inl (fun _ => 0))), ((r 5), .inl ((kf 5), 24, .inl (fun _ => 0))), ((r 6), .inl ((kf 6), 24, .inl (fun _ => 0))), ((r 7), .inl ((kf 7), 24, .inl (fun _ => 0))), ((r 8), .inl ((kf 8), 8, .inl (fun _ => 0))), ((r 9), .inl ((kf 9), 8, .inl (fun _ => 0))), ((r 10), .inl ((kf 10), 8, .inl (fun _ => 0))), ((r 11), .inl ((kf 11), 8, .inl (fun _ => 0))), ((r 4), .inl ((kf 4), 24, .inl (fun _ => 0)))]) (w1 := [(h0, .inr (12, fsMk r (nI (5 + 1)) 1)), ((r 12), .inl ((kf 12), 300, .inl f_13))]) hP hD [12, 13] [0, 1, 2, 3, 4, 5, 6, 7, 8, 9, 10, 11] rfl rfl (by decide) (by decide) hk1 hFc hP1 hD1
  generalize H1 = H at hP hS ⊢
  have hP : va_P (dC, dI) vwCl [((r 0), .inl ((kf 0), 6, .inl (fun _ => 0))), ((r 1), .inl ((kf 1), 36, .inl (fun _ => 0))), ((r 2), .inl ((kf 2), 24, .inl (fun _ => 0))), ((r 3), .inl ((kf 3), 24, .inl (fun _ => 0))), ((r 5), .inl ((kf 5), 24, .inl (fun _ => 0))), ((r 6), .inl ((kf 6), 24, .inl (fun _ => 0))), ((r 7), .inl ((kf 7), 24, .inl (fun _ => 0))), ((r 8), .inl ((kf 8), 8, .inl (fun _ => 0))), ((r 9), .inl ((kf 9), 8, .inl (fun _ => 0))), ((r 10), .inl ((kf 10), 8, .inl (fun _ => 0))), ((r 11), .inl ((kf 11), 8, .inl (fun _ => 0))), ((r 4), .inl ((kf 4), 24, .inl (fun _ => 0))), (h0, .inr (12, fsMk r (nI (5 + 1)) 1)), ((r 12), .inl ((kf 12), 300, .inl f_13))] H := hP
  have hD : va_D A [((r 0), .inl ((kf 0), 6, .inl (fun _ => 0))), ((r 1), .inl ((kf 1), 36, .inl (fun _ => 0))), ((r 2), .inl ((kf 2), 24, .inl (fun _ => 0))), ((r 3), .inl ((kf 3), 24, .inl (fun _ => 0))), ((r 5), .inl ((kf 5), 24, .inl (fun _ => 0))), ((r 6), .inl ((kf 6), 24, .inl (fun _ => 0))), ((r 7), .inl ((kf 7), 24, .inl (fun _ => 0))), ((r 8), .inl ((kf 8), 8, .inl (fun _ => 0))), ((r 9), .inl ((kf 9), 8, .inl (fun _ => 0))), ((r 10), .inl ((kf 10), 8, .inl (fun _ => 0))), ((r 11), .inl ((kf 11), 8, .inl (fun _ => 0))), ((r 4), .inl ((kf 4), 24, .inl (fun _ => 0))), (h0, .inr (12, fsMk r (nI (5 + 1)) 1)), ((r 12), .inl ((kf 12), 300, .inl f_13))] := hD
  subst hw
  have hP : va_P (dC, dI) vwCl [((r 0), .inl ((kf 0), 6, .inl (fun _ => 0))), ((r 1), .inl ((kf 1), 36, .inl (fun _ => 0))), ((r 2), .inl ((kf 2), 24, .inl (fun _ => 0))), ((r 3), .inl ((kf 3), 24, .inl (fun _ => 0))), ((r 5), .inl ((kf 5), 24, .inl (fun _ => 0))), ((r 6), .inl ((kf 6), 24, .inl (fun _ => 0))), ((r 7), .inl ((kf 7), 24, .inl (fun _ => 0))), ((r 8), .inl ((kf 8), 8, .inl (fun _ => 0))), ((r 9), .inl ((kf 9), 8, .inl (fun _ => 0))), ((r 10), .inl ((kf 10), 8, .inl (fun _ => 0))), ((r 11), .inl ((kf 11), 8, .inl (fun _ => 0))), ((r 4), .inl ((kf 4), 24, .inl (fun _ => 0))), (h0, .inr (12, fsMk r (nI 6) 1)), ((r 12), .inl ((kf 12), 300, .inl f_13))] H := hP
  have hD : va_D A [((r 0), .inl ((kf 0), 6, .inl (fun _ => 0))), ((r 1), .inl ((kf 1), 36, .inl (fun _ => 0))), ((r 2), .inl ((kf 2), 24, .inl (fun _ => 0))), ((r 3), .inl ((kf 3), 24, .inl (fun _ => 0))), ((r 5), .inl ((kf 5), 24, .inl (fun _ => 0))), ((r 6), .inl ((kf 6), 24, .inl (fun _ => 0))), ((r 7), .inl ((kf 7), 24, .inl (fun _ => 0))), ((r 8), .inl ((kf 8), 8, .inl (fun _ => 0))), ((r 9), .inl ((kf 9), 8, .inl (fun _ => 0))), ((r 10), .inl ((kf 10), 8, .inl (fun _ => 0))), ((r 11), .inl ((kf 11), 8, .inl (fun _ => 0))), ((r 4), .inl ((kf 4), 24, .inl (fun _ => 0))), (h0, .inr (12, fsMk r (nI 6) 1)), ((r 12), .inl ((kf 12), 300, .inl f_13))] := hD
  refine va_put (D := (dC, dI)) (ci := 12) (v := .int 0) (ty := .int) (C := RX12) (T := TX12) (N := 57) hx hb hts (fun w h => List.mem_cons_of_mem _ (jnGB_X12 w h)) tyX12 tyX12_ok nmX12 hown hK hP hD hS 12 rfl rfl 5 (by decide) (hts _ (List.mem_cons_of_mem _ mGB_32)) (fun _ h9 => h9) rfl (by decide +kernel) rfl rfl (Nat.le_of_ble_eq_true rfl) dX12_movesAll_96 (fun H locs hP hD hS => ?_)
  have hP : va_P (dC, dI) vwCl [((r 0), .inl ((kf 0), 6, .inl (fun _ => 0))), ((r 1), .inl ((kf 1), 36, .inl (fun _ => 0))), ((r 2), .inl ((kf 2), 24, .inl (fun _ => 0))), ((r 3), .inl ((kf 3), 24, .inl (fun _ => 0))), ((r 5), .inl ((kf 5), 24, .inl (fun _ => 0))), ((r 6), .inl ((kf 6), 24, .inl (fun _ => 0))), ((r 7), .inl ((kf 7), 24, .inl (fun _ => 0))), ((r 8), .inl ((kf 8), 8, .inl (fun _ => 0))), ((r 9), .inl ((kf 9), 8, .inl (fun _ => 0))), ((r 10), .inl ((kf 10), 8, .inl (fun _ => 0))), ((r 11), .inl ((kf 11), 8, .inl (fun _ => 0))), ((r 4), .inl ((kf 4), 24, .inl (fun _ => 0))), (h0, .inr (12, [.int 0, .int 0, .int 0, .int 0, .int 0, .int 0, .int 0, .int 0, .ref (r 0), .ref (r 1), .int 0, .ref (r 2), .ref (r 3), .ref (r 4), .ref (r 5), .ref (r 6), .ref (r 7), .int 0, .ref (r 8), .ref (r 9), .ref (r 10), .ref (r 11), .ref (r 12), .int (nI 6), .int 1, .ref (r 13), .int 0, .int 0, .int (-1), .int 0, .int 0, .int 0, .int 0, .int 0, .ref (r 14), .ref (r 15), .ref (r 16), .int 0, .ref (r 17), .ref (r 18), .ref (r 19), .int 0, .int (-1), .int (-1), .int (-1), .int (-1), .ref (r 20), .int 0, .int 0, .int 0, .int 0, .int 0, .ref (r 21), .ref (r 22), .int 0, .ref (r 23), .int 0])), ((r 12), .inl ((kf 12), 300, .inl f_13))] H := hP
  have hD : va_D A [((r 0), .inl ((kf 0), 6, .inl (fun _ => 0))), ((r 1), .inl ((kf 1), 36, .inl (fun _ => 0))), ((r 2), .inl ((kf 2), 24, .inl (fun _ => 0))), ((r 3), .inl ((kf 3), 24, .inl (fun _ => 0))), ((r 5), .inl ((kf 5), 24, .inl (fun _ => 0))), ((r 6), .inl ((kf 6), 24, .inl (fun _ => 0))), ((r 7), .inl ((kf 7), 24, .inl (fun _ => 0))), ((r 8), .inl ((kf 8), 8, .inl (fun _ => 0))), ((r 9), .inl ((kf 9), 8, .inl (fun _ => 0))), ((r 10), .inl ((kf 10), 8, .inl (fun _ => 0))), ((r 11), .inl ((kf 11), 8, .inl (fun _ => 0))), ((r 4), .inl ((kf 4), 24, .inl (fun _ => 0))), (h0, .inr (12, [.int 0, .int 0, .int 0, .int 0, .int 0, .int 0, .int 0, .int 0, .ref (r 0), .ref (r 1), .int 0, .ref (r 2), .ref (r 3), .ref (r 4), .ref (r 5), .ref (r 6), .ref (r 7), .int 0, .ref (r 8), .ref (r 9), .ref (r 10), .ref (r 11), .ref (r 12), .int (nI 6), .int 1, .ref (r 13), .int 0, .int 0, .int (-1), .int 0, .int 0, .int 0, .int 0, .int 0, .ref (r 14), .ref (r 15), .ref (r 16), .int 0, .ref (r 17), .ref (r 18), .ref (r 19), .int 0, .int (-1), .int (-1), .int (-1), .int (-1), .ref (r 20), .int 0, .int 0, .int 0, .int 0, .int 0, .ref (r 21), .ref (r 22), .int 0, .ref (r 23), .int 0])), ((r 12), .inl ((kf 12), 300, .inl f_13))] := hD
  refine lv_aload_n hx hb dX12_movesAll_99 rfl (lv_at hl 0 rfl) ?_
  refine lv_aload_n hx hb dX12_movesAll_100 rfl (lv_at hl 0 rfl) ?_
  refine lv_aload_n hx hb dX12_movesAll_101 rfl (lv_at hl 0 rfl) ?_
  refine va_get (D := (dC, dI)) (ci := 12) (v := .int 0) (C := RX12) (T := TX12) (N := 57) hx hb hts (fun w h => List.mem_cons_of_mem _ (jnGB_X12 w h)) hown hK hP 12 rfl rfl 6 (by decide) (hts _ (List.mem_cons_of_mem _ mGB_33)) (fun _ h9 => h9) rfl dX12_movesAll_102 ?_
  have hP : va_P (dC, dI) vwCl [((r 0), .inl ((kf 0), 6, .inl (fun _ => 0))), ((r 1), .inl ((kf 1), 36, .inl (fun _ => 0))), ((r 2), .inl ((kf 2), 24, .inl (fun _ => 0))), ((r 3), .inl ((kf 3), 24, .inl (fun _ => 0))), ((r 5), .inl ((kf 5), 24, .inl (fun _ => 0))), ((r 6), .inl ((kf 6), 24, .inl (fun _ => 0))), ((r 7), .inl ((kf 7), 24, .inl (fun _ => 0))), ((r 8), .inl ((kf 8), 8, .inl (fun _ => 0))), ((r 9), .inl ((kf 9), 8, .inl (fun _ => 0))), ((r 10), .inl ((kf 10), 8, .inl (fun _ => 0))), ((r 11), .inl ((kf 11), 8, .inl (fun _ => 0))), ((r 4), .inl ((kf 4), 24, .inl (fun _ => 0))), (h0, .inr (12, fsMk r (nI 6) 1)), ((r 12), .inl ((kf 12), 300, .inl f_13))] H := hP
  have hD : va_D A [((r 0), .inl ((kf 0), 6, .inl (fun _ => 0))), ((r 1), .inl ((kf 1), 36, .inl (fun _ => 0))), ((r 2), .inl ((kf 2), 24, .inl (fun _ => 0))), ((r 3), .inl ((kf 3), 24, .inl (fun _ => 0))), ((r 5), .inl ((kf 5), 24, .inl (fun _ => 0))), ((r 6), .inl ((kf 6), 24, .inl (fun _ => 0))), ((r 7), .inl ((kf 7), 24, .inl (fun _ => 0))), ((r 8), .inl ((kf 8), 8, .inl (fun _ => 0))), ((r 9), .inl ((kf 9), 8, .inl (fun _ => 0))), ((r 10), .inl ((kf 10), 8, .inl (fun _ => 0))), ((r 11), .inl ((kf 11), 8, .inl (fun _ => 0))), ((r 4), .inl ((kf 4), 24, .inl (fun _ => 0))), (h0, .inr (12, fsMk r (nI 6) 1)), ((r 12), .inl ((kf 12), 300, .inl f_13))] := hD
  have hPc := hP.sub (ws' := [(h0, .inr (12, fsMk r (nI 6) 1)), ((r 12), .inl ((kf 12), 300, .inl f_13))]) [12, 13] rfl
  have hDc := hD.sub (ws' := [(h0, .inr (12, fsMk r (nI 6) 1)), ((r 12), .inl ((kf 12), 300, .inl f_13))]) [12, 13] (by decide) rfl
  have hKc := hK.sub (tys' := [((kf 12), .int)]) [12] rfl
  have hFc := va_free (wc := [(h0, .inr (12, fsMk r (nI 6) 1)), ((r 12), .inl ((kf 12), 300, .inl f_13))]) hD hS hA [12, 13] rfl
  refine va_calli (va_runV (As := [.int 0]) (rest := [.ref h0]) ⟨hx, hb, hml, hown, hts⟩ (fX12_moves l dC dI H.size h0 r kf 6 f_13 0 (by decide)) (cwV 1 hts (gz_gV mGB_70 mGB_71 mGB_72 mGB_5 mGB_69 goodGB) rfl rfl rfl (by decide +kernel) ⟨Nat.le_of_ble_eq_true rfl, Nat.le_of_ble_eq_true rfl⟩) ⟨fun a U g mk q => by obtain ⟨q0, q1, qP, qK, qD⟩ := q; exact ⟨q0, q1, qP, va_K.moved (u := U) (U := U.calling g mk a) (Vm.Alike.refl U.vm) qK, qD⟩, va_recv hKc hPc (ci := 12) (q0 := 0) rfl rfl, fun U hU hW => ⟨rfl, by rw [hU], by rw [hU]; exact hPc, va_K.moved hW.alike hKc, hDc.weaken (fun _ _ _ _ => trivial)⟩⟩ rfl rfl hl.1 rfl (lv_room (Nat.le_of_ble_eq_true rfl)) dX12_movesAll_105 ⟨Nat.le_of_ble_eq_true rfl, Nat.le_of_ble_eq_true rfl⟩) hS (fun q _ h => hFc q h) hFc (fun r_16 u t H1 locs ht hvm hw hB hz1 hk1 hS => ?_)
  obtain ⟨f_15, hP1, hK1, hD1⟩ := hB
  rw [ht] at hP1
  have hK1 := va_K.moved hvm.symm hK1
  obtain ⟨hP, hD⟩ := va_join (wr := [((r 0), .inl ((kf 0), 6, .inl (fun _ => 0))), ((r 1), .inl ((kf 1), 36, .inl (fun _ => 0))), ((r 2), .inl ((kf 2), 24, .inl (fun _ => 0))), ((r 3), .inl ((kf 3), 24, .inl (fun _ => 0))), ((r 5), .inl ((kf 5), 24, .inl (fun _ => 0))), ((r 6), .inl ((kf 6), 24, .inl (fun _ => 0))), ((r 7), .inl ((kf 7), 24, .inl (fun _ => 0))), ((r 8), .inl ((kf 8), 8, .inl (fun _ => 0))), ((r 9), .inl ((kf 9), 8, .inl (fun _ => 0))), ((r 10), .inl ((kf 10), 8, .inl (fun _ => 0))), ((r 11), .inl ((kf 11), 8, .inl (fun _ => 0))), ((r 4), .inl ((kf 4), 24, .inl (fun _ => 0)))]) (w1 := [(h0, .inr (12, fsMk r (nI (6 + 1)) 1)), ((r 12), .inl ((kf 12), 300, .inl f_15))]) hP hD [12, 13] [0, 1, 2, 3, 4, 5, 6, 7, 8, 9, 10, 11] rfl rfl (by decide) (by decide) hk1 hFc hP1 hD1
  generalize H1 = H at hP hS ⊢
  have hP : va_P (dC, dI) vwCl [((r 0), .inl ((kf 0), 6, .inl (fun _ => 0))), ((r 1), .inl ((kf 1), 36, .inl (fun _ => 0))), ((r 2), .inl ((kf 2), 24, .inl (fun _ => 0))), ((r 3), .inl ((kf 3), 24, .inl (fun _ => 0))), ((r 5), .inl ((kf 5), 24, .inl (fun _ => 0))), ((r 6), .inl ((kf 6), 24, .inl (fun _ => 0))), ((r 7), .inl ((kf 7), 24, .inl (fun _ => 0))), ((r 8), .inl ((kf 8), 8, .inl (fun _ => 0))), ((r 9), .inl ((kf 9), 8, .inl (fun _ => 0))), ((r 10), .inl ((kf 10), 8, .inl (fun _ => 0))), ((r 11), .inl ((kf 11), 8, .inl (fun _ => 0))), ((r 4), .inl ((kf 4), 24, .inl (fun _ => 0))), (h0, .inr (12, fsMk r (nI (6 + 1)) 1)), ((r 12), .inl ((kf 12), 300, .inl f_15))] H := hP
  have hD : va_D A [((r 0), .inl ((kf 0), 6, .inl (fun _ => 0))), ((r 1), .inl ((kf 1), 36, .inl (fun _ => 0))), ((r 2), .inl ((kf 2), 24, .inl (fun _ => 0))), ((r 3), .inl ((kf 3), 24, .inl (fun _ => 0))), ((r 5), .inl ((kf 5), 24, .inl (fun _ => 0))), ((r 6), .inl ((kf 6), 24, .inl (fun _ => 0))), ((r 7), .inl ((kf 7), 24, .inl (fun _ => 0))), ((r 8), .inl ((kf 8), 8, .inl (fun _ => 0))), ((r 9), .inl ((kf 9), 8, .inl (fun _ => 0))), ((r 10), .inl ((kf 10), 8, .inl (fun _ => 0))), ((r 11), .inl ((kf 11), 8, .inl (fun _ => 0))), ((r 4), .inl ((kf 4), 24, .inl (fun _ => 0))), (h0, .inr (12, fsMk r (nI (6 + 1)) 1)), ((r 12), .inl ((kf 12), 300, .inl f_15))] := hD
  subst hw
  have hP : va_P (dC, dI) vwCl [((r 0), .inl ((kf 0), 6, .inl (fun _ => 0))), ((r 1), .inl ((kf 1), 36, .inl (fun _ => 0))), ((r 2), .inl ((kf 2), 24, .inl (fun _ => 0))), ((r 3), .inl ((kf 3), 24, .inl (fun _ => 0))), ((r 5), .inl ((kf 5), 24, .inl (fun _ => 0))), ((r 6), .inl ((kf 6), 24, .inl (fun _ => 0))), ((r 7), .inl ((kf 7), 24, .inl (fun _ => 0))), ((r 8), .inl ((kf 8), 8, .inl (fun _ => 0))), ((r 9), .inl ((kf 9), 8, .inl (fun _ => 0))), ((r 10), .inl ((kf 10), 8, .inl (fun _ => 0))), ((r 11), .inl ((kf 11), 8, .inl (fun _ => 0))), ((r 4), .inl ((kf 4), 24, .inl (fun _ => 0))), (h0, .inr (12, fsMk r (nI 7) 1)), ((r 12), .inl ((kf 12), 300, .inl f_15))] H := hP
  have hD : va_D A [((r 0), .inl ((kf 0), 6, .inl (fun _ => 0))), ((r 1), .inl ((kf 1), 36, .inl (fun _ => 0))), ((r 2), .inl ((kf 2), 24, .inl (fun _ => 0))), ((r 3), .inl ((kf 3), 24, .inl (fun _ => 0))), ((r 5), .inl ((kf 5), 24, .inl (fun _ => 0))), ((r 6), .inl ((kf 6), 24, .inl (fun _ => 0))), ((r 7), .inl ((kf 7), 24, .inl (fun _ => 0))), ((r 8), .inl ((kf 8), 8, .inl (fun _ => 0))), ((r 9), .inl ((kf 9), 8, .inl (fun _ => 0))), ((r 10), .inl ((kf 10), 8, .inl (fun _ => 0))), ((r 11), .inl ((kf 11), 8, .inl (fun _ => 0))), ((r 4), .inl ((kf 4), 24, .inl (fun _ => 0))), (h0, .inr (12, fsMk r (nI 7) 1)), ((r 12), .inl ((kf 12), 300, .inl f_15))] := hD
  refine va_put (D := (dC, dI)) (ci := 12) (v := .int 0) (ty := .int) (C := RX12) (T := TX12) (N := 57) hx hb hts (fun w h => List.mem_cons_of_mem _ (jnGB_X12 w h)) tyX12 tyX12_ok nmX12 hown hK hP hD hS 12 rfl rfl 6 (by decide) (hts _ (List.mem_cons_of_mem _ mGB_33)) (fun _ h9 => h9) rfl (by decide +kernel) rfl rfl (Nat.le_of_ble_eq_true rfl) dX12_movesAll_108 (fun H locs hP hD hS => ?_)
  have hP : va_P (dC, dI) vwCl [((r 0), .inl ((kf 0), 6, .inl (fun _ => 0))), ((r 1), .inl ((kf 1), 36, .inl (fun _ => 0))), ((r 2), .inl ((kf 2), 24, .inl (fun _ => 0))), ((r 3), .inl ((kf 3), 24, .inl (fun _ => 0))), ((r 5), .inl ((kf 5), 24, .inl (fun _ => 0))), ((r 6), .inl ((kf 6), 24, .inl (fun _ => 0))), ((r 7), .inl ((kf 7), 24, .inl (fun _ => 0))), ((r 8), .inl ((kf 8), 8, .inl (fun _ => 0))), ((r 9), .inl ((kf 9), 8, .inl (fun _ => 0))), ((r 10), .inl ((kf 10), 8, .inl (fun _ => 0))), ((r 11), .inl ((kf 11), 8, .inl (fun _ => 0))), ((r 4), .inl ((kf 4), 24, .inl (fun _ => 0))), (h0, .inr (12, [.int 0, .int 0, .int 0, .int 0, .int 0, .int 0, .int 0, .int 0, .ref (r 0), .ref (r 1), .int 0, .ref (r 2), .ref (r 3), .ref (r 4), .ref (r 5), .ref (r 6), .ref (r 7), .int 0, .ref (r 8), .ref (r 9), .ref (r 10), .ref (r 11), .ref (r 12), .int (nI 7), .int 1, .ref (r 13), .int 0, .int 0, .int (-1), .int 0, .int 0, .int 0, .int 0, .int 0, .ref (r 14), .ref (r 15), .ref (r 16), .int 0, .ref (r 17), .ref (r 18), .ref (r 19), .int 0, .int (-1), .int (-1), .int (-1), .int (-1), .ref (r 20), .int 0, .int 0, .int 0, .int 0, .int 0, .ref (r 21), .ref (r 22), .int 0, .ref (r 23), .int 0])), ((r 12), .inl ((kf 12), 300, .inl f_15))] H := hP
  have hD : va_D A [((r 0), .inl ((kf 0), 6, .inl (fun _ => 0))), ((r 1), .inl ((kf 1), 36, .inl (fun _ => 0))), ((r 2), .inl ((kf 2), 24, .inl (fun _ => 0))), ((r 3), .inl ((kf 3), 24, .inl (fun _ => 0))), ((r 5), .inl ((kf 5), 24, .inl (fun _ => 0))), ((r 6), .inl ((kf 6), 24, .inl (fun _ => 0))), ((r 7), .inl ((kf 7), 24, .inl (fun _ => 0))), ((r 8), .inl ((kf 8), 8, .inl (fun _ => 0))), ((r 9), .inl ((kf 9), 8, .inl (fun _ => 0))), ((r 10), .inl ((kf 10), 8, .inl (fun _ => 0))), ((r 11), .inl ((kf 11), 8, .inl (fun _ => 0))), ((r 4), .inl ((kf 4), 24, .inl (fun _ => 0))), (h0, .inr (12, [.int 0, .int 0, .int 0, .int 0, .int 0, .int 0, .int 0, .int 0, .ref (r 0), .ref (r 1), .int 0, .ref (r 2), .ref (r 3), .ref (r 4), .ref (r 5), .ref (r 6), .ref (r 7), .int 0, .ref (r 8), .ref (r 9), .ref (r 10), .ref (r 11), .ref (r 12), .int (nI 7), .int 1, .ref (r 13), .int 0, .int 0, .int (-1), .int 0, .int 0, .int 0, .int 0, .int 0, .ref (r 14), .ref (r 15), .ref (r 16), .int 0, .ref (r 17), .ref (r 18), .ref (r 19), .int 0, .int (-1), .int (-1), .int (-1), .int (-1), .ref (r 20), .int 0, .int 0, .int 0, .int 0, .int 0, .ref (r 21), .ref (r 22), .int 0, .ref (r 23), .int 0])), ((r 12), .inl ((kf 12), 300, .inl f_15))] := hD
  refine lv_aload_n hx hb dX12_movesAll_111 rfl (lv_at hl 0 rfl) ?_
  refine lv_aload_n hx hb dX12_movesAll_112 rfl (lv_at hl 0 rfl) ?_
  refine lv_aload_n hx hb dX12_movesAll_113 rfl (lv_at hl 0 rfl) ?_
  refine va_get (D := (dC, dI)) (ci := 12) (v := .int 0) (C := RX12) (T := TX12) (N := 57) hx hb hts (fun w h => List.mem_cons_of_mem _ (jnGB_X12 w h)) hown hK hP 12 rfl rfl 7 (by decide) (hts _ (List.mem_cons_of_mem _ mGB_1)) (fun _ h9 => h9) rfl dX12_movesAll_114 ?_
  have hP : va_P (dC, dI) vwCl [((r 0), .inl ((kf 0), 6, .inl (fun _ => 0))), ((r 1), .inl ((kf 1), 36, .inl (fun _ => 0))), ((r 2), .inl ((kf 2), 24, .inl (fun _ => 0))), ((r 3), .inl ((kf 3), 24, .inl (fun _ => 0))), ((r 5), .inl ((kf 5), 24, .inl (fun _ => 0))), ((r 6), .inl ((kf 6), 24, .inl (fun _ => 0))), ((r 7), .inl ((kf 7), 24, .inl (fun _ => 0))), ((r 8), .inl ((kf 8), 8, .inl (fun _ => 0))), ((r 9), .inl ((kf 9), 8, .inl (fun _ => 0))), ((r 10), .inl ((kf 10), 8, .inl (fun _ => 0))), ((r 11), .inl ((kf 11), 8, .inl (fun _ => 0))), ((r 4), .inl ((kf 4), 24, .inl (fun _ => 0))), (h0, .inr (12, fsMk r (nI 7) 1)), ((r 12), .inl ((kf 12), 300, .inl f_15))] H := hP
  have hD : va_D A [((r 0), .inl ((kf 0), 6, .inl (fun _ => 0))), ((r 1), .inl ((kf 1), 36, .inl (fun _ => 0))), ((r 2), .inl ((kf 2), 24, .inl (fun _ => 0))), ((r 3), .inl ((kf 3), 24, .inl (fun _ => 0))), ((r 5), .inl ((kf 5), 24, .inl (fun _ => 0))), ((r 6), .inl ((kf 6), 24, .inl (fun _ => 0))), ((r 7), .inl ((kf 7), 24, .inl (fun _ => 0))), ((r 8), .inl ((kf 8), 8, .inl (fun _ => 0))), ((r 9), .inl ((kf 9), 8, .inl (fun _ => 0))), ((r 10), .inl ((kf 10), 8, .inl (fun _ => 0))), ((r 11), .inl ((kf 11), 8, .inl (fun _ => 0))), ((r 4), .inl ((kf 4), 24, .inl (fun _ => 0))), (h0, .inr (12, fsMk r (nI 7) 1)), ((r 12), .inl ((kf 12), 300, .inl f_15))] := hD
  have hPc := hP.sub (ws' := [(h0, .inr (12, fsMk r (nI 7) 1)), ((r 12), .inl ((kf 12), 300, .inl f_15))]) [12, 13] rfl
  have hDc := hD.sub (ws' := [(h0, .inr (12, fsMk r (nI 7) 1)), ((r 12), .inl ((kf 12), 300, .inl f_15))]) [12, 13] (by decide) rfl
  have hKc := hK.sub (tys' := [((kf 12), .int)]) [12] rfl
  have hFc := va_free (wc := [(h0, .inr (12, fsMk r (nI 7) 1)), ((r 12), .inl ((kf 12), 300, .inl f_15))]) hD hS hA [12, 13] rfl
  refine va_calli (va_runV (As := [.int 0]) (rest := [.ref h0]) ⟨hx, hb, hml, hown, hts⟩ (fX12_moves l dC dI H.size h0 r kf 7 f_15 0 (by decide)) (cwV 1 hts (gz_gV mGB_70 mGB_71 mGB_72 mGB_5 mGB_69 goodGB) rfl rfl rfl (by decide +kernel) ⟨Nat.le_of_ble_eq_true rfl, Nat.le_of_ble_eq_true rfl⟩) ⟨fun a U g mk q => by obtain ⟨q0, q1, qP, qK, qD⟩ := q; exact ⟨q0, q1, qP, va_K.moved (u := U) (U := U.calling g mk a) (Vm.Alike.refl U.vm) qK, qD⟩, va_recv hKc hPc (ci := 12) (q0 := 0) rfl rfl, fun U hU hW => ⟨rfl, by rw [hU], by rw [hU]; exact hPc, va_K.moved hW.alike hKc, hDc.weaken (fun _ _ _ _ => trivial)⟩⟩ rfl rfl hl.1 rfl (lv_room (Nat.le_of_ble_eq_true rfl)) dX12_movesAll_117 ⟨Nat.le_of_ble_eq_true rfl, Nat.le_of_ble_eq_true rfl⟩) hS (fun q _ h => hFc q h) hFc (fun r_18 u t H1 locs ht hvm hw hB hz1 hk1 hS => ?_)
  obtain ⟨f_17, hP1, hK1, hD1⟩ := hB
  rw [ht] at hP1
  have hK1 := va_K.moved hvm.symm hK1
  obtain ⟨hP, hD⟩ := va_join (wr := [((r 0), .inl ((kf 0), 6, .inl (fun _ => 0))), ((r 1), .inl ((kf 1), 36, .inl (fun _ => 0))), ((r 2), .inl ((kf 2), 24, .inl (fun _ => 0))), ((r 3), .inl ((kf 3), 24, .inl (fun _ => 0))), ((r 5), .inl ((kf 5), 24, .inl (fun _ => 0))), ((r 6), .inl ((kf 6), 24, .inl (fun _ => 0))), ((r 7), .inl ((kf 7), 24, .inl (fun _ => 0))), ((r 8), .inl ((kf 8), 8, .inl (fun _ => 0))), ((r 9), .inl ((kf 9), 8, .inl (fun _ => 0))), ((r 10), .inl ((kf 10), 8, .inl (fun _ => 0))), ((r 11), .inl ((kf 11), 8, .inl (fun _ => 0))), ((r 4), .inl ((kf 4), 24, .inl (fun _ => 0)))]) (w1 := [(h0, .inr (12, fsMk r (nI (7 + 1)) 1)), ((r 12), .inl ((kf 12), 300, .inl f_17))]) hP hD [12, 13] [0, 1, 2, 3, 4, 5, 6, 7, 8, 9, 10, 11] rfl rfl (by decide) (by decide) hk1 hFc hP1 hD1
  generalize H1 = H at hP hS ⊢
  have hP : va_P (dC, dI) vwCl [((r 0), .inl ((kf 0), 6, .inl (fun _ => 0))), ((r 1), .inl ((kf 1), 36, .inl (fun _ => 0))), ((r 2), .inl ((kf 2), 24, .inl (fun _ => 0))), ((r 3), .inl ((kf 3), 24, .inl (fun _ => 0))), ((r 5), .inl ((kf 5), 24, .inl (fun _ => 0))), ((r 6), .inl ((kf 6), 24, .inl (fun _ => 0))), ((r 7), .inl ((kf 7), 24, .inl (fun _ => 0))), ((r 8), .inl ((kf 8), 8, .inl (fun _ => 0))), ((r 9), .inl ((kf 9), 8, .inl (fun _ => 0))), ((r 10), .inl ((kf 10), 8, .inl (fun _ => 0))), ((r 11), .inl ((kf 11), 8, .inl (fun _ => 0))), ((r 4), .inl ((kf 4), 24, .inl (fun _ => 0))), (h0, .inr (12, fsMk r (nI (7 + 1)) 1)), ((r 12), .inl ((kf 12), 300, .inl f_17))] H := hP
  have hD : va_D A [((r 0), .inl ((kf 0), 6, .inl (fun _ => 0))), ((r 1), .inl ((kf 1), 36, .inl (fun _ => 0))), ((r 2), .inl ((kf 2), 24, .inl (fun _ => 0))), ((r 3), .inl ((kf 3), 24, .inl (fun _ => 0))), ((r 5), .inl ((kf 5), 24, .inl (fun _ => 0))), ((r 6), .inl ((kf 6), 24, .inl (fun _ => 0))), ((r 7), .inl ((kf 7), 24, .inl (fun _ => 0))), ((r 8), .inl ((kf 8), 8, .inl (fun _ => 0))), ((r 9), .inl ((kf 9), 8, .inl (fun _ => 0))), ((r 10), .inl ((kf 10), 8, .inl (fun _ => 0))), ((r 11), .inl ((kf 11), 8, .inl (fun _ => 0))), ((r 4), .inl ((kf 4), 24, .inl (fun _ => 0))), (h0, .inr (12, fsMk r (nI (7 + 1)) 1)), ((r 12), .inl ((kf 12), 300, .inl f_17))] := hD
  subst hw
  have hP : va_P (dC, dI) vwCl [((r 0), .inl ((kf 0), 6, .inl (fun _ => 0))), ((r 1), .inl ((kf 1), 36, .inl (fun _ => 0))), ((r 2), .inl ((kf 2), 24, .inl (fun _ => 0))), ((r 3), .inl ((kf 3), 24, .inl (fun _ => 0))), ((r 5), .inl ((kf 5), 24, .inl (fun _ => 0))), ((r 6), .inl ((kf 6), 24, .inl (fun _ => 0))), ((r 7), .inl ((kf 7), 24, .inl (fun _ => 0))), ((r 8), .inl ((kf 8), 8, .inl (fun _ => 0))), ((r 9), .inl ((kf 9), 8, .inl (fun _ => 0))), ((r 10), .inl ((kf 10), 8, .inl (fun _ => 0))), ((r 11), .inl ((kf 11), 8, .inl (fun _ => 0))), ((r 4), .inl ((kf 4), 24, .inl (fun _ => 0))), (h0, .inr (12, fsMk r (nI 8) 1)), ((r 12), .inl ((kf 12), 300, .inl f_17))] H := hP
  have hD : va_D A [((r 0), .inl ((kf 0), 6, .inl (fun _ => 0))), ((r 1), .inl ((kf 1), 36, .inl (fun _ => 0))), ((r 2), .inl ((kf 2), 24, .inl (fun _ => 0))), ((r 3), .inl ((kf 3), 24, .inl (fun _ => 0))), ((r 5), .inl ((kf 5), 24, .inl (fun _ => 0))), ((r 6), .inl ((kf 6), 24, .inl (fun _ => 0))), ((r 7), .inl ((kf 7), 24, .inl (fun _ => 0))), ((r 8), .inl ((kf 8), 8, .inl (fun _ => 0))), ((r 9), .inl ((kf 9), 8, .inl (fun _ => 0))), ((r 10), .inl ((kf 10), 8, .inl (fun _ => 0))), ((r 11), .inl ((kf 11), 8, .inl (fun _ => 0))), ((r 4), .inl ((kf 4), 24, .inl (fun _ => 0))), (h0, .inr (12, fsMk r (nI 8) 1)), ((r 12), .inl ((kf 12), 300, .inl f_17))] := hD
  refine va_put (D := (dC, dI)) (ci := 12) (v := .int 0) (ty := .int) (C := RX12) (T := TX12) (N := 57) hx hb hts (fun w h => List.mem_cons_of_mem _ (jnGB_X12 w h)) tyX12 tyX12_ok nmX12 hown hK hP hD hS 12 rfl rfl 7 (by decide) (hts _ (List.mem_cons_of_mem _ mGB_1)) (fun _ h9 => h9) rfl (by decide +kernel) rfl rfl (Nat.le_of_ble_eq_true rfl) dX12_movesAll_120 (fun H locs hP hD hS => ?_)
  have hP : va_P (dC, dI) vwCl [((r 0), .inl ((kf 0), 6, .inl (fun _ => 0))), ((r 1), .inl ((kf 1), 36, .inl (fun _ => 0))), ((r 2), .inl ((kf 2), 24, .inl (fun _ => 0))), ((r 3), .inl ((kf 3), 24, .inl (fun _ => 0))), ((r 5), .inl ((kf 5), 24, .inl (fun _ => 0))), ((r 6), .inl ((kf 6), 24, .inl (fun _ => 0))), ((r 7), .inl ((kf 7), 24, .inl (fun _ => 0))), ((r 8), .inl ((kf 8), 8, .inl (fun _ => 0))), ((r 9), .inl ((kf 9), 8, .inl (fun _ => 0))), ((r 10), .inl ((kf 10), 8, .inl (fun _ => 0))), ((r 11), .inl ((kf 11), 8, .inl (fun _ => 0))), ((r 4), .inl ((kf 4), 24, .inl (fun _ => 0))), (h0, .inr (12, [.int 0, .int 0, .int 0, .int 0, .int 0, .int 0, .int 0, .int 0, .ref (r 0), .ref (r 1), .int 0, .ref (r 2), .ref (r 3), .ref (r 4), .ref (r 5), .ref (r 6), .ref (r 7), .int 0, .ref (r 8), .ref (r 9), .ref (r 10), .ref (r 11), .ref (r 12), .int (nI 8), .int 1, .ref (r 13), .int 0, .int 0, .int (-1), .int 0, .int 0, .int 0, .int 0, .int 0, .ref (r 14), .ref (r 15), .ref (r 16), .int 0, .ref (r 17), .ref (r 18), .ref (r 19), .int 0, .int (-1), .int (-1), .int (-1), .int (-1), .ref (r 20), .int 0, .int 0, .int 0, .int 0, .int 0, .ref (r 21), .ref (r 22), .int 0, .ref (r 23), .int 0])), ((r 12), .inl ((kf 12), 300, .inl f_17))] H := hP
  have hD : va_D A [((r 0), .inl ((kf 0), 6, .inl (fun _ => 0))), ((r 1), .inl ((kf 1), 36, .inl (fun _ => 0))), ((r 2), .inl ((kf 2), 24, .inl (fun _ => 0))), ((r 3), .inl ((kf 3), 24, .inl (fun _ => 0))), ((r 5), .inl ((kf 5), 24, .inl (fun _ => 0))), ((r 6), .inl ((kf 6), 24, .inl (fun _ => 0))), ((r 7), .inl ((kf 7), 24, .inl (fun _ => 0))), ((r 8), .inl ((kf 8), 8, .inl (fun _ => 0))), ((r 9), .inl ((kf 9), 8, .inl (fun _ => 0))), ((r 10), .inl ((kf 10), 8, .inl (fun _ => 0))), ((r 11), .inl ((kf 11), 8, .inl (fun _ => 0))), ((r 4), .inl ((kf 4), 24, .inl (fun _ => 0))), (h0, .inr (12, [.int 0, .int 0, .int 0, .int 0, .int 0, .int 0, .int 0, .int 0, .ref (r 0), .ref (r 1), .int 0, .ref (r 2), .ref (r 3), .ref (r 4), .ref (r 5), .ref (r 6), .ref (r 7), .int 0, .ref (r 8), .ref (r 9), .ref (r 10), .ref (r 11), .ref (r 12), .int (nI 8), .int 1, .ref (r 13), .int 0, .int 0, .int (-1), .int 0, .int 0, .int 0, .int 0, .int 0, .ref (r 14), .ref (r 15), .ref (r 16), .int 0, .ref (r 17), .ref (r 18), .ref (r 19), .int 0, .int (-1), .int (-1), .int (-1), .int (-1), .ref (r 20), .int 0, .int 0, .int 0, .int 0, .int 0, .ref (r 21), .ref (r 22), .int 0, .ref (r 23), .int 0])), ((r 12), .inl ((kf 12), 300, .inl f_17))] := hD
  refine lv_aload_n hx hb dX12_movesAll_123 rfl (lv_at hl 0 rfl) ?_
  refine lv_aload_n hx hb dX12_movesAll_124 rfl (lv_at hl 0 rfl) ?_
  refine lv_aload_n hx hb dX12_movesAll_125 rfl (lv_at hl 0 rfl) ?_
  refine va_get (D := (dC, dI)) (ci := 12) (v := .int 0) (C := RX12) (T := TX12) (N := 57) hx hb hts (fun w h => List.mem_cons_of_mem _ (jnGB_X12 w h)) hown hK hP 12 rfl rfl 10 (by decide) (hts _ (List.mem_cons_of_mem _ mGB_6)) (fun _ h9 => h9) rfl dX12_movesAll_126 ?_
  have hP : va_P (dC, dI) vwCl [((r 0), .inl ((kf 0), 6, .inl (fun _ => 0))), ((r 1), .inl ((kf 1), 36, .inl (fun _ => 0))), ((r 2), .inl ((kf 2), 24, .inl (fun _ => 0))), ((r 3), .inl ((kf 3), 24, .inl (fun _ => 0))), ((r 5), .inl ((kf 5), 24, .inl (fun _ => 0))), ((r 6), .inl ((kf 6), 24, .inl (fun _ => 0))), ((r 7), .inl ((kf 7), 24, .inl (fun _ => 0))), ((r 8), .inl ((kf 8), 8, .inl (fun _ => 0))), ((r 9), .inl ((kf 9), 8, .inl (fun _ => 0))), ((r 10), .inl ((kf 10), 8, .inl (fun _ => 0))), ((r 11), .inl ((kf 11), 8, .inl (fun _ => 0))), ((r 4), .inl ((kf 4), 24, .inl (fun _ => 0))), (h0, .inr (12, fsMk r (nI 8) 1)), ((r 12), .inl ((kf 12), 300, .inl f_17))] H := hP
  have hD : va_D A [((r 0), .inl ((kf 0), 6, .inl (fun _ => 0))), ((r 1), .inl ((kf 1), 36, .inl (fun _ => 0))), ((r 2), .inl ((kf 2), 24, .inl (fun _ => 0))), ((r 3), .inl ((kf 3), 24, .inl (fun _ => 0))), ((r 5), .inl ((kf 5), 24, .inl (fun _ => 0))), ((r 6), .inl ((kf 6), 24, .inl (fun _ => 0))), ((r 7), .inl ((kf 7), 24, .inl (fun _ => 0))), ((r 8), .inl ((kf 8), 8, .inl (fun _ => 0))), ((r 9), .inl ((kf 9), 8, .inl (fun _ => 0))), ((r 10), .inl ((kf 10), 8, .inl (fun _ => 0))), ((r 11), .inl ((kf 11), 8, .inl (fun _ => 0))), ((r 4), .inl ((kf 4), 24, .inl (fun _ => 0))), (h0, .inr (12, fsMk r (nI 8) 1)), ((r 12), .inl ((kf 12), 300, .inl f_17))] := hD
  have hPc := hP.sub (ws' := [(h0, .inr (12, fsMk r (nI 8) 1)), ((r 12), .inl ((kf 12), 300, .inl f_17))]) [12, 13] rfl
  have hDc := hD.sub (ws' := [(h0, .inr (12, fsMk r (nI 8) 1)), ((r 12), .inl ((kf 12), 300, .inl f_17))]) [12, 13] (by decide) rfl
  have hKc := hK.sub (tys' := [((kf 12), .int)]) [12] rfl
  have hFc := va_free (wc := [(h0, .inr (12, fsMk r (nI 8) 1)), ((r 12), .inl ((kf 12), 300, .inl f_17))]) hD hS hA [12, 13] rfl
  refine va_calli (va_runV (As := [.int 0]) (rest := [.ref h0]) ⟨hx, hb, hml, hown, hts⟩ (fX12_moves l dC dI H.size h0 r kf 8 f_17 0 (by decide)) (cwV 1 hts (gz_gV mGB_70 mGB_71 mGB_72 mGB_5 mGB_69 goodGB) rfl rfl rfl (by decide +kernel) ⟨Nat.le_of_ble_eq_true rfl, Nat.le_of_ble_eq_true rfl⟩) ⟨fun a U g mk q => by obtain ⟨q0, q1, qP, qK, qD⟩ := q; exact ⟨q0, q1, qP, va_K.moved (u := U) (U := U.calling g mk a) (Vm.Alike.refl U.vm) qK, qD⟩, va_recv hKc hPc (ci := 12) (q0 := 0) rfl rfl, fun U hU hW => ⟨rfl, by rw [hU], by rw [hU]; exact hPc, va_K.moved hW.alike hKc, hDc.weaken (fun _ _ _ _ => trivial)⟩⟩ rfl rfl hl.1 rfl (lv_room (Nat.le_of_ble_eq_true rfl)) dX12_movesAll_129 ⟨Nat.le_of_ble_eq_true rfl, Nat.le_of_ble_eq_true rfl⟩) hS (fun q _ h => hFc q h) hFc (fun r_20 u t H1 locs ht hvm hw hB hz1 hk1 hS => ?_)
  obtain ⟨f_19, hP1, hK1, hD1⟩ := hB
  rw [ht] at hP1
  have hK1 := va_K.moved hvm.symm hK1
  obtain ⟨hP, hD⟩ := va_join (wr := [((r 0), .inl ((kf 0), 6, .inl (fun _ => 0))), ((r 1), .inl ((kf 1), 36, .inl (fun _ => 0))), ((r 2), .inl ((kf 2), 24, .inl (fun _ => 0))), ((r 3), .inl ((kf 3), 24, .inl (fun _ => 0))), ((r 5), .inl ((kf 5), 24, .inl (fun _ => 0))), ((r 6), .inl ((kf 6), 24, .inl (fun _ => 0))), ((r 7), .inl ((kf 7), 24, .inl (fun _ => 0))), ((r 8), .inl ((kf 8), 8, .inl (fun _ => 0))), ((r 9), .inl ((kf 9), 8, .inl (fun _ => 0))), ((r 10), .inl ((kf 10), 8, .inl (fun _ => 0))), ((r 11), .inl ((kf 11), 8, .inl (fun _ => 0))), ((r 4), .inl ((kf 4), 24, .inl (fun _ => 0)))]) (w1 := [(h0, .inr (12, fsMk r (nI (8 + 1)) 1)), ((r 12), .inl ((kf 12), 300, .inl f_19))]) hP hD [12, 13] [0, 1, 2, 3, 4, 5, 6, 7, 8, 9, 10, 11] rfl rfl (by decide) (by decide) hk1 hFc hP1 hD1
  generalize H1 = H at hP hS ⊢
  have hP : va_P (dC, dI) vwCl [((r 0), .inl ((kf 0), 6, .inl (fun _ => 0))), ((r 1), .inl ((kf 1), 36, .inl (fun _ => 0))), ((r 2), .inl ((kf 2), 24, .inl (fun _ => 0))), ((r 3), .inl ((kf 3), 24, .inl (fun _ => 0))), ((r 5), .inl ((kf 5), 24, .inl (fun _ => 0))), ((r 6), .inl ((kf 6), 24, .inl (fun _ => 0))), ((r 7), .inl ((kf 7), 24, .inl (fun _ => 0))), ((r 8), .inl ((kf 8), 8, .inl (fun _ => 0))), ((r 9), .inl ((kf 9), 8, .inl (fun _ => 0))), ((r 10), .inl ((kf 10), 8, .inl (fun _ => 0))), ((r 11), .inl ((kf 11), 8, .inl (fun _ => 0))), ((r 4), .inl ((kf 4), 24, .inl (fun _ => 0))), (h0, .inr (12, fsMk r (nI (8 + 1)) 1)), ((r 12), .inl ((kf 12), 300, .inl f_19))] H := hP
  have hD : va_D A [((r 0), .inl ((kf 0), 6, .inl (fun _ => 0))), ((r 1), .inl ((kf 1), 36, .inl (fun _ => 0))), ((r 2), .inl ((kf 2), 24, .inl (fun _ => 0))), ((r 3), .inl ((kf 3), 24, .inl (fun _ => 0))), ((r 5), .inl ((kf 5), 24, .inl (fun _ => 0))), ((r 6), .inl ((kf 6), 24, .inl (fun _ => 0))), ((r 7), .inl ((kf 7), 24, .inl (fun _ => 0))), ((r 8), .inl ((kf 8), 8, .inl (fun _ => 0))), ((r 9), .inl ((kf 9), 8, .inl (fun _ => 0))), ((r 10), .inl ((kf 10), 8, .inl (fun _ => 0))), ((r 11), .inl ((kf 11), 8, .inl (fun _ => 0))), ((r 4), .inl ((kf 4), 24, .inl (fun _ => 0))), (h0, .inr (12, fsMk r (nI (8 + 1)) 1)), ((r 12), .inl ((kf 12), 300, .inl f_19))] := hD
  subst hw
  have hP : va_P (dC, dI) vwCl [((r 0), .inl ((kf 0), 6, .inl (fun _ => 0))), ((r 1), .inl ((kf 1), 36, .inl (fun _ => 0))), ((r 2), .inl ((kf 2), 24, .inl (fun _ => 0))), ((r 3), .inl ((kf 3), 24, .inl (fun _ => 0))), ((r 5), .inl ((kf 5), 24, .inl (fun _ => 0))), ((r 6), .inl ((kf 6), 24, .inl (fun _ => 0))), ((r 7), .inl ((kf 7), 24, .inl (fun _ => 0))), ((r 8), .inl ((kf 8), 8, .inl (fun _ => 0))), ((r 9), .inl ((kf 9), 8, .inl (fun _ => 0))), ((r 10), .inl ((kf 10), 8, .inl (fun _ => 0))), ((r 11), .inl ((kf 11), 8, .inl (fun _ => 0))), ((r 4), .inl ((kf 4), 24, .inl (fun _ => 0))), (h0, .inr (12, fsMk r (nI 9) 1)), ((r 12), .inl ((kf 12), 300, .inl f_19))] H := hP
  have hD : va_D A [((r 0), .inl ((kf 0), 6, .inl (fun _ => 0))), ((r 1), .inl ((kf 1), 36, .inl (fun _ => 0))), ((r 2), .inl ((kf 2), 24, .inl (fun _ => 0))), ((r 3), .inl ((kf 3), 24, .inl (fun _ => 0))), ((r 5), .inl ((kf 5), 24, .inl (fun _ => 0))), ((r 6), .inl ((kf 6), 24, .inl (fun _ => 0))), ((r 7), .inl ((kf 7), 24, .inl (fun _ => 0))), ((r 8), .inl ((kf 8), 8, .inl (fun _ => 0))), ((r 9), .inl ((kf 9), 8, .inl (fun _ => 0))), ((r 10), .inl ((kf 10), 8, .inl (fun _ => 0))), ((r 11), .inl ((kf 11), 8, .inl (fun _ => 0))), ((r 4), .inl ((kf 4), 24, .inl (fun _ => 0))), (h0, .inr (12, fsMk r (nI 9) 1)), ((r 12), .inl ((kf 12), 300, .inl f_19))] := hD
  refine va_put (D := (dC, dI)) (ci := 12) (v := .int 0) (ty := .int) (C := RX12) (T := TX12) (N := 57) hx hb hts (fun w h => List.mem_cons_of_mem _ (jnGB_X12 w h)) tyX12 tyX12_ok nmX12 hown hK hP hD hS 12 rfl rfl 10 (by decide) (hts _ (List.mem_cons_of_mem _ mGB_6)) (fun _ h9 => h9) rfl (by decide +kernel) rfl rfl (Nat.le_of_ble_eq_true rfl) dX12_movesAll_132 (fun H locs hP hD hS => ?_)
  have hP : va_P (dC, dI) vwCl [((r 0), .inl ((kf 0), 6, .inl (fun _ => 0))), ((r 1), .inl ((kf 1), 36, .inl (fun _ => 0))), ((r 2), .inl ((kf 2), 24, .inl (fun _ => 0))), ((r 3), .inl ((kf 3), 24, .inl (fun _ => 0))), ((r 5), .inl ((kf 5), 24, .inl (fun _ => 0))), ((r 6), .inl ((kf 6), 24, .inl (fun _ => 0))), ((r 7), .inl ((kf 7), 24, .inl (fun _ => 0))), ((r 8), .inl ((kf 8), 8, .inl (fun _ => 0))), ((r 9), .inl ((kf 9), 8, .inl (fun _ => 0))), ((r 10), .inl ((kf 10), 8, .inl (fun _ => 0))), ((r 11), .inl ((kf 11), 8, .inl (fun _ => 0))), ((r 4), .inl ((kf 4), 24, .inl (fun _ => 0))), (h0, .inr (12, [.int 0, .int 0, .int 0, .int 0, .int 0, .int 0, .int 0, .int 0, .ref (r 0), .ref (r 1), .int 0, .ref (r 2), .ref (r 3), .ref (r 4), .ref (r 5), .ref (r 6), .ref (r 7), .int 0, .ref (r 8), .ref (r 9), .ref (r 10), .ref (r 11), .ref (r 12), .int (nI 9), .int 1, .ref (r 13), .int 0, .int 0, .int (-1), .int 0, .int 0, .int 0, .int 0, .int 0, .ref (r 14), .ref (r 15), .ref (r 16), .int 0, .ref (r 17), .ref (r 18), .ref (r 19), .int 0, .int (-1), .int (-1), .int (-1), .int (-1), .ref (r 20), .int 0, .int 0, .int 0, .int 0, .int 0, .ref (r 21), .ref (r 22), .int 0, .ref (r 23), .int 0])), ((r 12), .inl ((kf 12), 300, .inl f_19))] H := hP
  have hD : va_D A [((r 0), .inl ((kf 0), 6, .inl (fun _ => 0))), ((r 1), .inl ((kf 1), 36, .inl (fun _ => 0))), ((r 2), .inl ((kf 2), 24, .inl (fun _ => 0))), ((r 3), .inl ((kf 3), 24, .inl (fun _ => 0))), ((r 5), .inl ((kf 5), 24, .inl (fun _ => 0))), ((r 6), .inl ((kf 6), 24, .inl (fun _ => 0))), ((r 7), .inl ((kf 7), 24, .inl (fun _ => 0))), ((r 8), .inl ((kf 8), 8, .inl (fun _ => 0))), ((r 9), .inl ((kf 9), 8, .inl (fun _ => 0))), ((r 10), .inl ((kf 10), 8, .inl (fun _ => 0))), ((r 11), .inl ((kf 11), 8, .inl (fun _ => 0))), ((r 4), .inl ((kf 4), 24, .inl (fun _ => 0))), (h0, .inr (12, [.int 0, .int 0, .int 0, .int 0, .int 0, .int 0, .int 0, .int 0, .ref (r 0), .ref (r 1), .int 0, .ref (r 2), .ref (r 3), .ref (r 4), .ref (r 5), .ref (r 6), .ref (r 7), .int 0, .ref (r 8), .ref (r 9), .ref (r 10), .ref (r 11), .ref (r 12), .int (nI 9), .int 1, .ref (r 13), .int 0, .int 0, .int (-1), .int 0, .int 0, .int 0, .int 0, .int 0, .ref (r 14), .ref (r 15), .ref (r 16), .int 0, .ref (r 17), .ref (r 18), .ref (r 19), .int 0, .int (-1), .int (-1), .int (-1), .int (-1), .ref (r 20), .int 0, .int 0, .int 0, .int 0, .int 0, .ref (r 21), .ref (r 22), .int 0, .ref (r 23), .int 0])), ((r 12), .inl ((kf 12), 300, .inl f_19))] := hD
  refine lv_aload_n hx hb dX12_movesAll_135 rfl (lv_at hl 0 rfl) ?_
  refine lv_aload_n hx hb dX12_movesAll_136 rfl (lv_at hl 0 rfl) ?_
  refine lv_aload_n hx hb dX12_movesAll_137 rfl (lv_at hl 0 rfl) ?_
  refine va_get (D := (dC, dI)) (ci := 12) (v := .int 0) (C := RX12) (T := TX12) (N := 57) hx hb hts (fun w h => List.mem_cons_of_mem _ (jnGB_X12 w h)) hown hK hP 12 rfl rfl 17 (by decide) (hts _ (List.mem_cons_of_mem _ mGB_7)) (fun _ h9 => h9) rfl dX12_movesAll_138 ?_
  have hP : va_P (dC, dI) vwCl [((r 0), .inl ((kf 0), 6, .inl (fun _ => 0))), ((r 1), .inl ((kf 1), 36, .inl (fun _ => 0))), ((r 2), .inl ((kf 2), 24, .inl (fun _ => 0))), ((r 3), .inl ((kf 3), 24, .inl (fun _ => 0))), ((r 5), .inl ((kf 5), 24, .inl (fun _ => 0))), ((r 6), .inl ((kf 6), 24, .inl (fun _ => 0))), ((r 7), .inl ((kf 7), 24, .inl (fun _ => 0))), ((r 8), .inl ((kf 8), 8, .inl (fun _ => 0))), ((r 9), .inl ((kf 9), 8, .inl (fun _ => 0))), ((r 10), .inl ((kf 10), 8, .inl (fun _ => 0))), ((r 11), .inl ((kf 11), 8, .inl (fun _ => 0))), ((r 4), .inl ((kf 4), 24, .inl (fun _ => 0))), (h0, .inr (12, fsMk r (nI 9) 1)), ((r 12), .inl ((kf 12), 300, .inl f_19))] H := hP
  have hD : va_D A [((r 0), .inl ((kf 0), 6, .inl (fun _ => 0))), ((r 1), .inl ((kf 1), 36, .inl (fun _ => 0))), ((r 2), .inl ((kf 2), 24, .inl (fun _ => 0))), ((r 3), .inl ((kf 3), 24, .inl (fun _ => 0))), ((r 5), .inl ((kf 5), 24, .inl (fun _ => 0))), ((r 6), .inl ((kf 6), 24, .inl (fun _ => 0))), ((r 7), .inl ((kf 7), 24, .inl (fun _ => 0))), ((r 8), .inl ((kf 8), 8, .inl (fun _ => 0))), ((r 9), .inl ((kf 9), 8, .inl (fun _ => 0))), ((r 10), .inl ((kf 10), 8, .inl (fun _ => 0))), ((r 11), .inl ((kf 11), 8, .inl (fun _ => 0))), ((r 4), .inl ((kf 4), 24, .inl (fun _ => 0))), (h0, .inr (12, fsMk r (nI 9) 1)), ((r 12), .inl ((kf 12), 300, .inl f_19))] := hD
  have hPc := hP.sub (ws' := [(h0, .inr (12, fsMk r (nI 9) 1)), ((r 12), .inl ((kf 12), 300, .inl f_19))]) [12, 13] rfl
  have hDc := hD.sub (ws' := [(h0, .inr (12, fsMk r (nI 9) 1)), ((r 12), .inl ((kf 12), 300, .inl f_19))]) [12, 13] (by decide) rfl
  have hKc := hK.sub (tys' := [((kf 12), .int)]) [12] rfl
  have hFc := va_free (wc := [(h0, .inr (12, fsMk r (nI 9) 1)), ((r 12), .inl ((kf 12), 300, .inl f_19))]) hD hS hA [12, 13] rfl
  refine va_calli (va_runV (As := [.int 0]) (rest := [.ref h0]) ⟨hx, hb, hml, hown, hts⟩ (fX12_moves l dC dI H.size h0 r kf 9 f_19 0 (by decide)) (cwV 1 hts (gz_gV mGB_70 mGB_71 mGB_72 mGB_5 mGB_69 goodGB) rfl rfl rfl (by decide +kernel) ⟨Nat.le_of_ble_eq_true rfl, Nat.le_of_ble_eq_true rfl⟩) ⟨fun a U g mk q => by obtain ⟨q0, q1, qP, qK, qD⟩ := q; exact ⟨q0, q1, qP, va_K.moved (u := U) (U := U.calling g mk a) (Vm.Alike.refl U.vm) qK, qD⟩, va_recv hKc hPc (ci := 12) (q0 := 0) rfl rfl, fun U hU hW => ⟨rfl, by rw [hU], by rw [hU]; exact hPc, va_K.moved hW.alike hKc, hDc.weaken (fun _ _ _ _ => trivial)⟩⟩ rfl rfl hl.1 rfl (lv_room (Nat.le_of_ble_eq_true rfl)) dX12_movesAll_141 ⟨Nat.le_of_ble_eq_true rfl, Nat.le_of_ble_eq_true rfl⟩) hS (fun q _ h => hFc q h) hFc (fun r_22 u t H1 locs ht hvm hw hB hz1 hk1 hS => ?_)
  obtain ⟨f_21, hP1, hK1, hD1⟩ := hB
  rw [ht] at hP1
  have hK1 := va_K.moved hvm.symm hK1
  obtain ⟨hP, hD⟩ := va_join (wr := [((r 0), .inl ((kf 0), 6, .inl (fun _ => 0))), ((r 1), .inl ((kf 1), 36, .inl (fun _ => 0))), ((r 2), .inl ((kf 2), 24, .inl (fun _ => 0))), ((r 3), .inl ((kf 3), 24, .inl (fun _ => 0))), ((r 5), .inl ((kf 5), 24, .inl (fun _ => 0))), ((r 6), .inl ((kf 6), 24, .inl (fun _ => 0))), ((r 7), .inl ((kf 7), 24, .inl (fun _ => 0))), ((r 8), .inl ((kf 8), 8, .inl (fun _ => 0))), ((r 9), .inl ((kf 9), 8, .inl (fun _ => 0))), ((r 10), .inl ((kf 10), 8, .inl (fun _ => 0))), ((r 11), .inl ((kf 11), 8, .inl (fun _ => 0))), ((r 4), .inl ((kf 4), 24, .inl (fun _ => 0)))]) (w1 := [(h0, .inr (12, fsMk r (nI (9 + 1)) 1)), ((r 12), .inl ((kf 12), 300, .inl f_21))]) hP hD [12, 13] [0, 1, 2, 3, 4, 5, 6, 7, 8, 9, 10, 11] rfl rfl (by decide) (by decide) hk1 hFc hP1 hD1
  generalize H1 = H at hP hS ⊢
  have hP : va_P (dC, dI) vwCl [((r 0), .inl ((kf 0), 6, .inl (fun _ => 0))), ((r 1), .inl ((kf 1), 36, .inl (fun _ => 0))), ((r 2), .inl ((kf 2), 24, .inl (fun _ => 0))), ((r 3), .inl ((kf 3), 24, .inl (fun _ => 0))), ((r 5), .inl ((kf 5), 24, .inl (fun _ => 0))), ((r 6), .inl ((kf 6), 24, .inl (fun _ => 0))), ((r 7), .inl ((kf 7), 24, .inl (fun _ => 0))), ((r 8), .inl ((kf 8), 8, .inl (fun _ => 0))), ((r 9), .inl ((kf 9), 8, .inl (fun _ => 0))), ((r 10), .inl ((kf 10), 8, .inl (fun _ => 0))), ((r 11), .inl ((kf 11), 8, .inl (fun _ => 0))), ((r 4), .inl ((kf 4), 24, .inl (fun _ => 0))), (h0, .inr (12, fsMk r (nI (9 + 1)) 1)), ((r 12), .inl ((kf 12), 300, .inl f_21))] H := hP
  have hD : va_D A [((r 0), .inl ((kf 0), 6, .inl (fun _ => 0))), ((r 1), .inl ((kf 1), 36, .inl (fun _ => 0))), ((r 2), .inl ((kf 2), 24, .inl (fun _ => 0))), ((r 3), .inl ((kf 3), 24, .inl (fun _ => 0))), ((r 5), .inl ((kf 5), 24, .inl (fun _ => 0))), ((r 6), .inl ((kf 6), 24, .inl (fun _ => 0))), ((r 7), .inl ((kf 7), 24, .inl (fun _ => 0))), ((r 8), .inl ((kf 8), 8, .inl (fun _ => 0))), ((r 9), .inl ((kf 9), 8, .inl (fun _ => 0))), ((r 10), .inl ((kf 10), 8, .inl (fun _ => 0))), ((r 11), .inl ((kf 11), 8, .inl (fun _ => 0))), ((r 4), .inl ((kf 4), 24, .inl (fun _ => 0))), (h0, .inr (12, fsMk r (nI (9 + 1)) 1)), ((r 12), .inl ((kf 12), 300, .inl f_21))] := hD
  subst hw
  have hP : va_P (dC, dI) vwCl [((r 0), .inl ((kf 0), 6, .inl (fun _ => 0))), ((r 1), .inl ((kf 1), 36, .inl (fun _ => 0))), ((r 2), .inl ((kf 2), 24, .inl (fun _ => 0))), ((r 3), .inl ((kf 3), 24, .inl (fun _ => 0))), ((r 5), .inl ((kf 5), 24, .inl (fun _ => 0))), ((r 6), .inl ((kf 6), 24, .inl (fun _ => 0))), ((r 7), .inl ((kf 7), 24, .inl (fun _ => 0))), ((r 8), .inl ((kf 8), 8, .inl (fun _ => 0))), ((r 9), .inl ((kf 9), 8, .inl (fun _ => 0))), ((r 10), .inl ((kf 10), 8, .inl (fun _ => 0))), ((r 11), .inl ((kf 11), 8, .inl (fun _ => 0))), ((r 4), .inl ((kf 4), 24, .inl (fun _ => 0))), (h0, .inr (12, fsMk r (nI 10) 1)), ((r 12), .inl ((kf 12), 300, .inl f_21))] H := hP
  have hD : va_D A [((r 0), .inl ((kf 0), 6, .inl (fun _ => 0))), ((r 1), .inl ((kf 1), 36, .inl (fun _ => 0))), ((r 2), .inl ((kf 2), 24, .inl (fun _ => 0))), ((r 3), .inl ((kf 3), 24, .inl (fun _ => 0))), ((r 5), .inl ((kf 5), 24, .inl (fun _ => 0))), ((r 6), .inl ((kf 6), 24, .inl (fun _ => 0))), ((r 7), .inl ((kf 7), 24, .inl (fun _ => 0))), ((r 8), .inl ((kf 8), 8, .inl (fun _ => 0))), ((r 9), .inl ((kf 9), 8, .inl (fun _ => 0))), ((r 10), .inl ((kf 10), 8, .inl (fun _ => 0))), ((r 11), .inl ((kf 11), 8, .inl (fun _ => 0))), ((r 4), .inl ((kf 4), 24, .inl (fun _ => 0))), (h0, .inr (12, fsMk r (nI 10) 1)), ((r 12), .inl ((kf 12), 300, .inl f_21))] := hD
  refine va_put (D := (dC, dI)) (ci := 12) (v := .int 0) (ty := .int) (C := RX12) (T := TX12) (N := 57) hx hb hts (fun w h => List.mem_cons_of_mem _ (jnGB_X12 w h)) tyX12 tyX12_ok nmX12 hown hK hP hD hS 12 rfl rfl 17 (by decide) (hts _ (List.mem_cons_of_mem _ mGB_7)) (fun _ h9 => h9) rfl (by decide +kernel) rfl rfl (Nat.le_of_ble_eq_true rfl) dX12_movesAll_144 (fun H locs hP hD hS => ?_)
  have hP : va_P (dC, dI) vwCl [((r 0), .inl ((kf 0), 6, .inl (fun _ => 0))), ((r 1), .inl ((kf 1), 36, .inl (fun _ => 0))), ((r 2), .inl ((kf 2), 24, .inl (fun _ => 0))), ((r 3), .inl ((kf 3), 24, .inl (fun _ => 0))), ((r 5), .inl ((kf 5), 24, .inl (fun _ => 0))), ((r 6), .inl ((kf 6), 24, .inl (fun _ => 0))), ((r 7), .inl ((kf 7), 24, .inl (fun _ => 0))), ((r 8), .inl ((kf 8), 8, .inl (fun _ => 0))), ((r 9), .inl ((kf 9), 8, .inl (fun _ => 0))), ((r 10), .inl ((kf 10), 8, .inl (fun _ => 0))), ((r 11), .inl ((kf 11), 8, .inl (fun _ => 0))), ((r 4), .inl ((kf 4), 24, .inl (fun _ => 0))), (h0, .inr (12, [.int 0, .int 0, .int 0, .int 0, .int 0, .int 0, .int 0, .int 0, .ref (r 0), .ref (r 1), .int 0, .ref (r 2), .ref (r 3), .ref (r 4), .ref (r 5), .ref (r 6), .ref (r 7), .int 0, .ref (r 8), .ref (r 9), .ref (r 10), .ref (r 11), .ref (r 12), .int (nI 10), .int 1, .ref (r 13), .int 0, .int 0, .int (-1), .int 0, .int 0, .int 0, .int 0, .int 0, .ref (r 14), .ref (r 15), .ref (r 16), .int 0, .ref (r 17), .ref (r 18), .ref (r 19), .int 0, .int (-1), .int (-1), .int (-1), .int (-1), .ref (r 20), .int 0, .int 0, .int 0, .int 0, .int 0, .ref (r 21), .ref (r 22), .int 0, .ref (r 23), .int 0])), ((r 12), .inl ((kf 12), 300, .inl f_21))] H := hP
  have hD : va_D A [((r 0), .inl ((kf 0), 6, .inl (fun _ => 0))), ((r 1), .inl ((kf 1), 36, .inl (fun _ => 0))), ((r 2), .inl ((kf 2), 24, .inl (fun _ => 0))), ((r 3), .inl ((kf 3), 24, .inl (fun _ => 0))), ((r 5), .inl ((kf 5), 24, .inl (fun _ => 0))), ((r 6), .inl ((kf 6), 24, .inl (fun _ => 0))), ((r 7), .inl ((kf 7), 24, .inl (fun _ => 0))), ((r 8), .inl ((kf 8), 8, .inl (fun _ => 0))), ((r 9), .inl ((kf 9), 8, .inl (fun _ => 0))), ((r 10), .inl ((kf 10), 8, .inl (fun _ => 0))), ((r 11), .inl ((kf 11), 8, .inl (fun _ => 0))), ((r 4), .inl ((kf 4), 24, .inl (fun _ => 0))), (h0, .inr (12, [.int 0, .int 0, .int 0, .int 0, .int 0, .int 0, .int 0, .int 0, .ref (r 0), .ref (r 1), .int 0, .ref (r 2), .ref (r 3), .ref (r 4), .ref (r 5), .ref (r 6), .ref (r 7), .int 0, .ref (r 8), .ref (r 9), .ref (r 10), .ref (r 11), .ref (r 12), .int (nI 10), .int 1, .ref (r 13), .int 0, .int 0, .int (-1), .int 0, .int 0, .int 0, .int 0, .int 0, .ref (r 14), .ref (r 15), .ref (r 16), .int 0, .ref (r 17), .ref (r 18), .ref (r 19), .int 0, .int (-1), .int (-1), .int (-1), .int (-1), .ref (r 20), .int 0, .int 0, .int 0, .int 0, .int 0, .ref (r 21), .ref (r 22), .int 0, .ref (r 23), .int 0])), ((r 12), .inl ((kf 12), 300, .inl f_21))] := hD
  refine lv_aload_n hx hb dX12_movesAll_147 rfl (lv_at hl 0 rfl) ?_
  refine lv_aload_n hx hb dX12_movesAll_148 rfl (lv_at hl 0 rfl) ?_
  refine va_get (D := (dC, dI)) (ci := 12) (v := .ref (r 0)) (C := RX12) (T := TX12) (N := 57) hx hb hts (fun w h => List.mem_cons_of_mem _ (jnGB_X12 w h)) hown hK hP 12 rfl rfl 8 (by decide) (hts _ (List.mem_cons_of_mem _ mGB_38)) (fun _ h9 => h9) rfl dX12_movesAll_149 ?_
  have hPc := hP.sub (ws' := [(h0, .inr (12, [.int 0, .int 0, .int 0, .int 0, .int 0, .int 0, .int 0, .int 0, .ref (r 0), .ref (r 1), .int 0, .ref (r 2), .ref (r 3), .ref (r 4), .ref (r 5), .ref (r 6), .ref (r 7), .int 0, .ref (r 8), .ref (r 9), .ref (r 10), .ref (r 11), .ref (r 12), .int (nI 10), .int 1, .ref (r 13), .int 0, .int 0, .int (-1), .int 0, .int 0, .int 0, .int 0, .int 0, .ref (r 14), .ref (r 15), .ref (r 16), .int 0, .ref (r 17), .ref (r 18), .ref (r 19), .int 0, .int (-1), .int (-1), .int (-1), .int (-1), .ref (r 20), .int 0, .int 0, .int 0, .int 0, .int 0, .ref (r 21), .ref (r 22), .int 0, .ref (r 23), .int 0])), ((r 12), .inl ((kf 12), 300, .inl f_21)), ((r 0), .inl ((kf 0), 6, .inl (fun _ => 0)))]) [12, 13, 0] rfl
  have hDc := hD.sub (ws' := [(h0, .inr (12, [.int 0, .int 0, .int 0, .int 0, .int 0, .int 0, .int 0, .int 0, .ref (r 0), .ref (r 1), .int 0, .ref (r 2), .ref (r 3), .ref (r 4), .ref (r 5), .ref (r 6), .ref (r 7), .int 0, .ref (r 8), .ref (r 9), .ref (r 10), .ref (r 11), .ref (r 12), .int (nI 10), .int 1, .ref (r 13), .int 0, .int 0, .int (-1), .int 0, .int 0, .int 0, .int 0, .int 0, .ref (r 14), .ref (r 15), .ref (r 16), .int 0, .ref (r 17), .ref (r 18), .ref (r 19), .int 0, .int (-1), .int (-1), .int (-1), .int (-1), .ref (r 20), .int 0, .int 0, .int 0, .int 0, .int 0, .ref (r 21), .ref (r 22), .int 0, .ref (r 23), .int 0])), ((r 12), .inl ((kf 12), 300, .inl f_21)), ((r 0), .inl ((kf 0), 6, .inl (fun _ => 0)))]) [12, 13, 0] (by decide) rfl
  have hKc := hK.sub (tys' := [((kf 12), .int), ((kf 0), .int)]) [12, 0] rfl
  have hFc := va_free (wc := [(h0, .inr (12, [.int 0, .int 0, .int 0, .int 0, .int 0, .int 0, .int 0, .int 0, .ref (r 0), .ref (r 1), .int 0, .ref (r 2), .ref (r 3), .ref (r 4), .ref (r 5), .ref (r 6), .ref (r 7), .int 0, .ref (r 8), .ref (r 9), .ref (r 10), .ref (r 11), .ref (r 12), .int (nI 10), .int 1, .ref (r 13), .int 0, .int 0, .int (-1), .int 0, .int 0, .int 0, .int 0, .int 0, .ref (r 14), .ref (r 15), .ref (r 16), .int 0, .ref (r 17), .ref (r 18), .ref (r 19), .int 0, .int (-1), .int (-1), .int (-1), .int (-1), .ref (r 20), .int 0, .int 0, .int 0, .int 0, .int 0, .ref (r 21), .ref (r 22), .int 0, .ref (r 23), .int 0])), ((r 12), .inl ((kf 12), 300, .inl f_21)), ((r 0), .inl ((kf 0), 6, .inl (fun _ => 0)))]) hD hS hA [12, 13, 0] rfl
  refine va_callv (va_runV (As := [.ref (r 0)]) (rest := []) ⟨hx, hb, hml, hown, hts⟩ (fX12_movesRow l dC dI H.size h0 r kf (r 0) (kf 0) 6 10 f_21 (fun _ => 0) (by decide)) (cwV 1 hts (gz_gV mGB_74 mGB_75 mGB_76 mGB_5 mGB_73 goodGB) rfl rfl rfl (by decide +kernel) ⟨Nat.le_of_ble_eq_true rfl, Nat.le_of_ble_eq_true rfl⟩) ⟨fun a U g mk q => by obtain ⟨q0, q1, qP, qK, qD⟩ := q; exact ⟨q0, q1, qP, va_K.moved (u := U) (U := U.calling g mk a) (Vm.Alike.refl U.vm) qK, qD⟩, va_recv hKc hPc (ci := 12) (q0 := 0) rfl rfl, fun U hU hW => ⟨rfl, by rw [hU], by rw [hU]; exact hPc, va_K.moved hW.alike hKc, hDc.weaken (fun _ _ _ _ => trivial)⟩⟩ rfl rfl hl.1 rfl (lv_room (Nat.le_of_ble_eq_true rfl)) dX12_movesAll_152 ⟨Nat.le_of_ble_eq_true rfl, Nat.le_of_ble_eq_true rfl⟩) hS (fun q _ h => hFc q h) hFc (fun  u t H1 locs ht hvm hw hB hz1 hk1 hS => ?_)
  obtain ⟨f_23, f_24, hP1, hK1, hD1⟩ := hB
  rw [ht] at hP1
  have hK1 := va_K.moved hvm.symm hK1
  obtain ⟨hP, hD⟩ := va_join (wr := [((r 1), .inl ((kf 1), 36, .inl (fun _ => 0))), ((r 2), .inl ((kf 2), 24, .inl (fun _ => 0))), ((r 3), .inl ((kf 3), 24, .inl (fun _ => 0))), ((r 5), .inl ((kf 5), 24, .inl (fun _ => 0))), ((r 6), .inl ((kf 6), 24, .inl (fun _ => 0))), ((r 7), .inl ((kf 7), 24, .inl (fun _ => 0))), ((r 8), .inl ((kf 8), 8, .inl (fun _ => 0))), ((r 9), .inl ((kf 9), 8, .inl (fun _ => 0))), ((r 10), .inl ((kf 10), 8, .inl (fun _ => 0))), ((r 11), .inl ((kf 11), 8, .inl (fun _ => 0))), ((r 4), .inl ((kf 4), 24, .inl (fun _ => 0)))]) (w1 := [(h0, .inr (12, fsMk r (nI (10 + 6)) 1)), ((r 12), .inl ((kf 12), 300, .inl f_23)), ((r 0), .inl ((kf 0), 6, .inl f_24))]) hP hD [12, 13, 0] [1, 2, 3, 4, 5, 6, 7, 8, 9, 10, 11] rfl rfl (by decide) (by decide) hk1 hFc hP1 hD1
  generalize H1 = H at hP hS ⊢
  have hP : va_P (dC, dI) vwCl [((r 1), .inl ((kf 1), 36, .inl (fun _ => 0))), ((r 2), .inl ((kf 2), 24, .inl (fun _ => 0))), ((r 3), .inl ((kf 3), 24, .inl (fun _ => 0))), ((r 5), .inl ((kf 5), 24, .inl (fun _ => 0))), ((r 6), .inl ((kf 6), 24, .inl (fun _ => 0))), ((r 7), .inl ((kf 7), 24, .inl (fun _ => 0))), ((r 8), .inl ((kf 8), 8, .inl (fun _ => 0))), ((r 9), .inl ((kf 9), 8, .inl (fun _ => 0))), ((r 10), .inl ((kf 10), 8, .inl (fun _ => 0))), ((r 11), .inl ((kf 11), 8, .inl (fun _ => 0))), ((r 4), .inl ((kf 4), 24, .inl (fun _ => 0))), (h0, .inr (12, fsMk r (nI (10 + 6)) 1)), ((r 12), .inl ((kf 12), 300, .inl f_23)), ((r 0), .inl ((kf 0), 6, .inl f_24))] H := hP
  have hD : va_D A [((r 1), .inl ((kf 1), 36, .inl (fun _ => 0))), ((r 2), .inl ((kf 2), 24, .inl (fun _ => 0))), ((r 3), .inl ((kf 3), 24, .inl (fun _ => 0))), ((r 5), .inl ((kf 5), 24, .inl (fun _ => 0))), ((r 6), .inl ((kf 6), 24, .inl (fun _ => 0))), ((r 7), .inl ((kf 7), 24, .inl (fun _ => 0))), ((r 8), .inl ((kf 8), 8, .inl (fun _ => 0))), ((r 9), .inl ((kf 9), 8, .inl (fun _ => 0))), ((r 10), .inl ((kf 10), 8, .inl (fun _ => 0))), ((r 11), .inl ((kf 11), 8, .inl (fun _ => 0))), ((r 4), .inl ((kf 4), 24, .inl (fun _ => 0))), (h0, .inr (12, fsMk r (nI (10 + 6)) 1)), ((r 12), .inl ((kf 12), 300, .inl f_23)), ((r 0), .inl ((kf 0), 6, .inl f_24))] := hD
  have hP : va_P (dC, dI) vwCl [((r 1), .inl ((kf 1), 36, .inl (fun _ => 0))), ((r 2), .inl ((kf 2), 24, .inl (fun _ => 0))), ((r 3), .inl ((kf 3), 24, .inl (fun _ => 0))), ((r 5), .inl ((kf 5), 24, .inl (fun _ => 0))), ((r 6), .inl ((kf 6), 24, .inl (fun _ => 0))), ((r 7), .inl ((kf 7), 24, .inl (fun _ => 0))), ((r 8), .inl ((kf 8), 8, .inl (fun _ => 0))), ((r 9), .inl ((kf 9), 8, .inl (fun _ => 0))), ((r 10), .inl ((kf 10), 8, .inl (fun _ => 0))), ((r 11), .inl ((kf 11), 8, .inl (fun _ => 0))), ((r 4), .inl ((kf 4), 24, .inl (fun _ => 0))), (h0, .inr (12, fsMk r (nI 16) 1)), ((r 12), .inl ((kf 12), 300, .inl f_23)), ((r 0), .inl ((kf 0), 6, .inl f_24))] H := hP
  have hD : va_D A [((r 1), .inl ((kf 1), 36, .inl (fun _ => 0))), ((r 2), .inl ((kf 2), 24, .inl (fun _ => 0))), ((r 3), .inl ((kf 3), 24, .inl (fun _ => 0))), ((r 5), .inl ((kf 5), 24, .inl (fun _ => 0))), ((r 6), .inl ((kf 6), 24, .inl (fun _ => 0))), ((r 7), .inl ((kf 7), 24, .inl (fun _ => 0))), ((r 8), .inl ((kf 8), 8, .inl (fun _ => 0))), ((r 9), .inl ((kf 9), 8, .inl (fun _ => 0))), ((r 10), .inl ((kf 10), 8, .inl (fun _ => 0))), ((r 11), .inl ((kf 11), 8, .inl (fun _ => 0))), ((r 4), .inl ((kf 4), 24, .inl (fun _ => 0))), (h0, .inr (12, fsMk r (nI 16) 1)), ((r 12), .inl ((kf 12), 300, .inl f_23)), ((r 0), .inl ((kf 0), 6, .inl f_24))] := hD
  refine lv_aload_n hx hb dX12_movesAll_155 rfl (lv_at hl 0 rfl) ?_
  refine lv_aload_n hx hb dX12_movesAll_156 rfl (lv_at hl 0 rfl) ?_
  refine va_get (D := (dC, dI)) (ci := 12) (v := .ref (r 1)) (C := RX12) (T := TX12) (N := 57) hx hb hts (fun w h => List.mem_cons_of_mem _ (jnGB_X12 w h)) hown hK hP 11 rfl rfl 9 (by decide) (hts _ (List.mem_cons_of_mem _ mGB_39)) (fun _ h9 => h9) rfl dX12_movesAll_157 ?_
  have hPc := hP.sub (ws' := [(h0, .inr (12, fsMk r (nI 16) 1)), ((r 12), .inl ((kf 12), 300, .inl f_23)), ((r 1), .inl ((kf 1), 36, .inl (fun _ => 0)))]) [11, 12, 0] rfl
  have hDc := hD.sub (ws' := [(h0, .inr (12, fsMk r (nI 16) 1)), ((r 12), .inl ((kf 12), 300, .inl f_23)), ((r 1), .inl ((kf 1), 36, .inl (fun _ => 0)))]) [11, 12, 0] (by decide) rfl
  have hKc := hK.sub (tys' := [((kf 12), .int), ((kf 1), .int)]) [12, 1] rfl
  have hFc := va_free (wc := [(h0, .inr (12, fsMk r (nI 16) 1)), ((r 12), .inl ((kf 12), 300, .inl f_23)), ((r 1), .inl ((kf 1), 36, .inl (fun _ => 0)))]) hD hS hA [11, 12, 0] rfl
  refine va_callv (va_runV (As := [.ref (r 1)]) (rest := []) ⟨hx, hb, hml, hown, hts⟩ (fX12_movesRow l dC dI H.size h0 r kf (r 1) (kf 1) 36 16 f_23 (fun _ => 0) (by decide)) (cwV 1 hts (gz_gV mGB_74 mGB_75 mGB_76 mGB_5 mGB_73 goodGB) rfl rfl rfl (by decide +kernel) ⟨Nat.le_of_ble_eq_true rfl, Nat.le_of_ble_eq_true rfl⟩) ⟨fun a U g mk q => by obtain ⟨q0, q1, qP, qK, qD⟩ := q; exact ⟨q0, q1, qP, va_K.moved (u := U) (U := U.calling g mk a) (Vm.Alike.refl U.vm) qK, qD⟩, va_recv hKc hPc (ci := 12) (q0 := 0) rfl rfl, fun U hU hW => ⟨rfl, by rw [hU], by rw [hU]; exact hPc, va_K.moved hW.alike hKc, hDc.weaken (fun _ _ _ _ => trivial)⟩⟩ rfl rfl hl.1 rfl (lv_room (Nat.le_of_ble_eq_true rfl)) dX12_movesAll_160 ⟨Nat.le_of_ble_eq_true rfl, Nat.le_of_ble_eq_true rfl⟩) hS (fun q _ h => hFc q h) hFc (fun  u t H1 locs ht hvm hw hB hz1 hk1 hS => ?_)
  obtain ⟨f_26, f_27, hP1, hK1, hD1⟩ := hB
  rw [ht] at hP1
  have hK1 := va_K.moved hvm.symm hK1
  obtain ⟨hP, hD⟩ := va_join (wr := [((r 2), .inl ((kf 2), 24, .inl (fun _ => 0))), ((r 3), .inl ((kf 3), 24, .inl (fun _ => 0))), ((r 5), .inl ((kf 5), 24, .inl (fun _ => 0))), ((r 6), .inl ((kf 6), 24, .inl (fun _ => 0))), ((r 7), .inl ((kf 7), 24, .inl (fun _ => 0))), ((r 8), .inl ((kf 8), 8, .inl (fun _ => 0))), ((r 9), .inl ((kf 9), 8, .inl (fun _ => 0))), ((r 10), .inl ((kf 10), 8, .inl (fun _ => 0))), ((r 11), .inl ((kf 11), 8, .inl (fun _ => 0))), ((r 4), .inl ((kf 4), 24, .inl (fun _ => 0))), ((r 0), .inl ((kf 0), 6, .inl f_24))]) (w1 := [(h0, .inr (12, fsMk r (nI (16 + 36)) 1)), ((r 12), .inl ((kf 12), 300, .inl f_26)), ((r 1), .inl ((kf 1), 36, .inl f_27))]) hP hD [11, 12, 0] [1, 2, 3, 4, 5, 6, 7, 8, 9, 10, 13] rfl rfl (by decide) (by decide) hk1 hFc hP1 hD1
  generalize H1 = H at hP hS ⊢
  have hP : va_P (dC, dI) vwCl [((r 2), .inl ((kf 2), 24, .inl (fun _ => 0))), ((r 3), .inl ((kf 3), 24, .inl (fun _ => 0))), ((r 5), .inl ((kf 5), 24, .inl (fun _ => 0))), ((r 6), .inl ((kf 6), 24, .inl (fun _ => 0))), ((r 7), .inl ((kf 7), 24, .inl (fun _ => 0))), ((r 8), .inl ((kf 8), 8, .inl (fun _ => 0))), ((r 9), .inl ((kf 9), 8, .inl (fun _ => 0))), ((r 10), .inl ((kf 10), 8, .inl (fun _ => 0))), ((r 11), .inl ((kf 11), 8, .inl (fun _ => 0))), ((r 4), .inl ((kf 4), 24, .inl (fun _ => 0))), ((r 0), .inl ((kf 0), 6, .inl f_24)), (h0, .inr (12, fsMk r (nI (16 + 36)) 1)), ((r 12), .inl ((kf 12), 300, .inl f_26)), ((r 1), .inl ((kf 1), 36, .inl f_27))] H := hP
  have hD : va_D A [((r 2), .inl ((kf 2), 24, .inl (fun _ => 0))), ((r 3), .inl ((kf 3), 24, .inl (fun _ => 0))), ((r 5), .inl ((kf 5), 24, .inl (fun _ => 0))), ((r 6), .inl ((kf 6), 24, .inl (fun _ => 0))), ((r 7), .inl ((kf 7), 24, .inl (fun _ => 0))), ((r 8), .inl ((kf 8), 8, .inl (fun _ => 0))), ((r 9), .inl ((kf 9), 8, .inl (fun _ => 0))), ((r 10), .inl ((kf 10), 8, .inl (fun _ => 0))), ((r 11), .inl ((kf 11), 8, .inl (fun _ => 0))), ((r 4), .inl ((kf 4), 24, .inl (fun _ => 0))), ((r 0), .inl ((kf 0), 6, .inl f_24)), (h0, .inr (12, fsMk r (nI (16 + 36)) 1)), ((r 12), .inl ((kf 12), 300, .inl f_26)), ((r 1), .inl ((kf 1), 36, .inl f_27))] := hD
  have hP : va_P (dC, dI) vwCl [((r 2), .inl ((kf 2), 24, .inl (fun _ => 0))), ((r 3), .inl ((kf 3), 24, .inl (fun _ => 0))), ((r 5), .inl ((kf 5), 24, .inl (fun _ => 0))), ((r 6), .inl ((kf 6), 24, .inl (fun _ => 0))), ((r 7), .inl ((kf 7), 24, .inl (fun _ => 0))), ((r 8), .inl ((kf 8), 8, .inl (fun _ => 0))), ((r 9), .inl ((kf 9), 8, .inl (fun _ => 0))), ((r 10), .inl ((kf 10), 8, .inl (fun _ => 0))), ((r 11), .inl ((kf 11), 8, .inl (fun _ => 0))), ((r 4), .inl ((kf 4), 24, .inl (fun _ => 0))), ((r 0), .inl ((kf 0), 6, .inl f_24)), (h0, .inr (12, fsMk r (nI 52) 1)), ((r 12), .inl ((kf 12), 300, .inl f_26)), ((r 1), .inl ((kf 1), 36, .inl f_27))] H := hP
  have hD : va_D A [((r 2), .inl ((kf 2), 24, .inl (fun _ => 0))), ((r 3), .inl ((kf 3), 24, .inl (fun _ => 0))), ((r 5), .inl ((kf 5), 24, .inl (fun _ => 0))), ((r 6), .inl ((kf 6), 24, .inl (fun _ => 0))), ((r 7), .inl ((kf 7), 24, .inl (fun _ => 0))), ((r 8), .inl ((kf 8), 8, .inl (fun _ => 0))), ((r 9), .inl ((kf 9), 8, .inl (fun _ => 0))), ((r 10), .inl ((kf 10), 8, .inl (fun _ => 0))), ((r 11), .inl ((kf 11), 8, .inl (fun _ => 0))), ((r 4), .inl ((kf 4), 24, .inl (fun _ => 0))), ((r 0), .inl ((kf 0), 6, .inl f_24)), (h0, .inr (12, fsMk r (nI 52) 1)), ((r 12), .inl ((kf 12), 300, .inl f_26)), ((r 1), .inl ((kf 1), 36, .inl f_27))] := hD
  refine lv_aload_n hx hb dX12_movesAll_163 rfl (lv_at hl 0 rfl) ?_
  refine lv_aload_n hx hb dX12_movesAll_164 rfl (lv_at hl 0 rfl) ?_
  refine va_get (D := (dC, dI)) (ci := 12) (v := .ref (r 2)) (C := RX12) (T := TX12) (N := 57) hx hb hts (fun w h => List.mem_cons_of_mem _ (jnGB_X12 w h)) hown hK hP 11 rfl rfl 11 (by decide) (hts _ (List.mem_cons_of_mem _ mGB_40)) (fun _ h9 => h9) rfl dX12_movesAll_165 ?_
  have hPc := hP.sub (ws' := [(h0, .inr (12, fsMk r (nI 52) 1)), ((r 12), .inl ((kf 12), 300, .inl f_26)), ((r 2), .inl ((kf 2), 24, .inl (fun _ => 0)))]) [11, 12, 0] rfl
  have hDc := hD.sub (ws' := [(h0, .inr (12, fsMk r (nI 52) 1)), ((r 12), .inl ((kf 12), 300, .inl f_26)), ((r 2), .inl ((kf 2), 24, .inl (fun _ => 0)))]) [11, 12, 0] (by decide) rfl
  have hKc := hK.sub (tys' := [((kf 12), .int), ((kf 2), .int)]) [12, 2] rfl
  have hFc := va_free (wc := [(h0, .inr (12, fsMk r (nI 52) 1)), ((r 12), .inl ((kf 12), 300, .inl f_26)), ((r 2), .inl ((kf 2), 24, .inl (fun _ => 0)))]) hD hS hA [11, 12, 0] rfl
  refine va_callv (va_runV (As := [.ref (r 2)]) (rest := []) ⟨hx, hb, hml, hown, hts⟩ (fX12_movesRow l dC dI H.size h0 r kf (r 2) (kf 2) 24 52 f_26 (fun _ => 0) (by decide)) (cwV 1 hts (gz_gV mGB_74 mGB_75 mGB_76 mGB_5 mGB_73 goodGB) rfl rfl rfl (by decide +kernel) ⟨Nat.le_of_ble_eq_true rfl, Nat.le_of_ble_eq_true rfl⟩) ⟨fun a U g mk q => by obtain ⟨q0, q1, qP, qK, qD⟩ := q; exact ⟨q0, q1, qP, va_K.moved (u := U) (U := U.calling g mk a) (Vm.Alike.refl U.vm) qK, qD⟩, va_recv hKc hPc (ci := 12) (q0 := 0) rfl rfl, fun U hU hW => ⟨rfl, by rw [hU], by rw [hU]; exact hPc, va_K.moved hW.alike hKc, hDc.weaken (fun _ _ _ _ => trivial)⟩⟩ rfl rfl hl.1 rfl (lv_room (Nat.le_of_ble_eq_true rfl)) dX12_movesAll_168 ⟨Nat.le_of_ble_eq_true rfl, Nat.le_of_ble_eq_true rfl⟩) hS (fun q _ h => hFc q h) hFc (fun  u t H1 locs ht hvm hw hB hz1 hk1 hS => ?_)
  obtain ⟨f_29, f_30, hP1, hK1, hD1⟩ := hB
  rw [ht] at hP1
  have hK1 := va_K.moved hvm.symm hK1
  obtain ⟨hP, hD⟩ := va_join (wr := [((r 3), .inl ((kf 3), 24, .inl (fun _ => 0))), ((r 5), .inl ((kf 5), 24, .inl (fun _ => 0))), ((r 6), .inl ((kf 6), 24, .inl (fun _ => 0))), ((r 7), .inl ((kf 7), 24, .inl (fun _ => 0))), ((r 8), .inl ((kf 8), 8, .inl (fun _ => 0))), ((r 9), .inl ((kf 9), 8, .inl (fun _ => 0))), ((r 10), .inl ((kf 10), 8, .inl (fun _ => 0))), ((r 11), .inl ((kf 11), 8, .inl (fun _ => 0))), ((r 4), .inl ((kf 4), 24, .inl (fun _ => 0))), ((r 0), .inl ((kf 0), 6, .inl f_24)), ((r 1), .inl ((kf 1), 36, .inl f_27))]) (w1 := [(h0, .inr (12, fsMk r (nI (52 + 24)) 1)), ((r 12), .inl ((kf 12), 300, .inl f_29)), ((r 2), .inl ((kf 2), 24, .inl f_30))]) hP hD [11, 12, 0] [1, 2, 3, 4, 5, 6, 7, 8, 9, 10, 13] rfl rfl (by decide) (by decide) hk1 hFc hP1 hD1
  generalize H1 = H at hP hS ⊢
  have hP : va_P (dC, dI) vwCl [((r 3), .inl ((kf 3), 24, .inl (fun _ => 0))), ((r 5), .inl ((kf 5), 24, .inl (fun _ => 0))), ((r 6), .inl ((kf 6), 24, .inl (fun _ => 0))), ((r 7), .inl ((kf 7), 24, .inl (fun _ => 0))), ((r 8), .inl ((kf 8), 8, .inl (fun _ => 0))), ((r 9), .inl ((kf 9), 8, .inl (fun _ => 0))), ((r 10), .inl ((kf 10), 8, .inl (fun _ => 0))), ((r 11), .inl ((kf 11), 8, .inl (fun _ => 0))), ((r 4), .inl ((kf 4), 24, .inl (fun _ => 0))), ((r 0), .inl ((kf 0), 6, .inl f_24)), ((r 1), .inl ((kf 1), 36, .inl f_27)), (h0, .inr (12, fsMk r (nI (52 + 24)) 1)), ((r 12), .inl ((kf 12), 300, .inl f_29)), ((r 2), .inl ((kf 2), 24, .inl f_30))] H := hP
  have hD : va_D A [((r 3), .inl ((kf 3), 24, .inl (fun _ => 0))), ((r 5), .inl ((kf 5), 24, .inl (fun _ => 0))), ((r 6), .inl ((kf 6), 24, .inl (fun _ => 0))), ((r 7), .inl ((kf 7), 24, .inl (fun _ => 0))), ((r 8), .inl ((kf 8), 8, .inl (fun _ => 0))), ((r 9), .inl ((kf 9), 8, .inl (fun _ => 0))), ((r 10), .inl ((kf 10), 8, .inl (fun _ => 0))), ((r 11), .inl ((kf 11), 8, .inl (fun _ => 0))), ((r 4), .inl ((kf 4), 24, .inl (fun _ => 0))), ((r 0), .inl ((kf 0), 6, .inl f_24)), ((r 1), .inl ((kf 1), 36, .inl f_27)), (h0, .inr (12, fsMk r (nI (52 + 24)) 1)), ((r 12), .inl ((kf 12), 300, .inl f_29)), ((r 2), .inl ((kf 2), 24, .inl f_30))] := hD
  have hP : va_P (dC, dI) vwCl [((r 3), .inl ((kf 3), 24, .inl (fun _ => 0))), ((r 5), .inl ((kf 5), 24, .inl (fun _ => 0))), ((r 6), .inl ((kf 6), 24, .inl (fun _ => 0))), ((r 7), .inl ((kf 7), 24, .inl (fun _ => 0))), ((r 8), .inl ((kf 8), 8, .inl (fun _ => 0))), ((r 9), .inl ((kf 9), 8, .inl (fun _ => 0))), ((r 10), .inl ((kf 10), 8, .inl (fun _ => 0))), ((r 11), .inl ((kf 11), 8, .inl (fun _ => 0))), ((r 4), .inl ((kf 4), 24, .inl (fun _ => 0))), ((r 0), .inl ((kf 0), 6, .inl f_24)), ((r 1), .inl ((kf 1), 36, .inl f_27)), (h0, .inr (12, fsMk r (nI 76) 1)), ((r 12), .inl ((kf 12), 300, .inl f_29)), ((r 2), .inl ((kf 2), 24, .inl f_30))] H := hP
  have hD : va_D A [((r 3), .inl ((kf 3), 24, .inl (fun _ => 0))), ((r 5), .inl ((kf 5), 24, .inl (fun _ => 0))), ((r 6), .inl ((kf 6), 24, .inl (fun _ => 0))), ((r 7), .inl ((kf 7), 24, .inl (fun _ => 0))), ((r 8), .inl ((kf 8), 8, .inl (fun _ => 0))), ((r 9), .inl ((kf 9), 8, .inl (fun _ => 0))), ((r 10), .inl ((kf 10), 8, .inl (fun _ => 0))), ((r 11), .inl ((kf 11), 8, .inl (fun _ => 0))), ((r 4), .inl ((kf 4), 24, .inl (fun _ => 0))), ((r 0), .inl ((kf 0), 6, .inl f_24)), ((r 1), .inl ((kf 1), 36, .inl f_27)), (h0, .inr (12, fsMk r (nI 76) 1)), ((r 12), .inl ((kf 12), 300, .inl f_29)), ((r 2), .inl ((kf 2), 24, .inl f_30))] := hD
  refine lv_aload_n hx hb dX12_movesAll_171 rfl (lv_at hl 0 rfl) ?_
  refine lv_aload_n hx hb dX12_movesAll_172 rfl (lv_at hl 0 rfl) ?_
  refine va_get (D := (dC, dI)) (ci := 12) (v := .ref (r 3)) (C := RX12) (T := TX12) (N := 57) hx hb hts (fun w h => List.mem_cons_of_mem _ (jnGB_X12 w h)) hown hK hP 11 rfl rfl 12 (by decide) (hts _ (List.mem_cons_of_mem _ mGB_41)) (fun _ h9 => h9) rfl dX12_movesAll_173 ?_
  have hPc := hP.sub (ws' := [(h0, .inr (12, fsMk r (nI 76) 1)), ((r 12), .inl ((kf 12), 300, .inl f_29)), ((r 3), .inl ((kf 3), 24, .inl (fun _ => 0)))]) [11, 12, 0] rfl
  have hDc := hD.sub (ws' := [(h0, .inr (12, fsMk r (nI 76) 1)), ((r 12), .inl ((kf 12), 300, .inl f_29)), ((r 3), .inl ((kf 3), 24, .inl (fun _ => 0)))]) [11, 12, 0] (by decide) rfl
  have hKc := hK.sub (tys' := [((kf 12), .int), ((kf 3), .int)]) [12, 3] rfl
  have hFc := va_free (wc := [(h0, .inr (12, fsMk r (nI 76) 1)), ((r 12), .inl ((kf 12), 300, .inl f_29)), ((r 3), .inl ((kf 3), 24, .inl (fun _ => 0)))]) hD hS hA [11, 12, 0] rfl
  refine va_callv (va_runV (As := [.ref (r 3)]) (rest := []) ⟨hx, hb, hml, hown, hts⟩ (fX12_movesRow l dC dI H.size h0 r kf (r 3) (kf 3) 24 76 f_29 (fun _ => 0) (by decide)) (cwV 1 hts (gz_gV mGB_74 mGB_75 mGB_76 mGB_5 mGB_73 goodGB) rfl rfl rfl (by decide +kernel) ⟨Nat.le_of_ble_eq_true rfl, Nat.le_of_ble_eq_true rfl⟩) ⟨fun a U g mk q => by obtain ⟨q0, q1, qP, qK, qD⟩ := q; exact ⟨q0, q1, qP, va_K.moved (u := U) (U := U.calling g mk a) (Vm.Alike.refl U.vm) qK, qD⟩, va_recv hKc hPc (ci := 12) (q0 := 0) rfl rfl, fun U hU hW => ⟨rfl, by rw [hU], by rw [hU]; exact hPc, va_K.moved hW.alike hKc, hDc.weaken (fun _ _ _ _ => trivial)⟩⟩ rfl rfl hl.1 rfl (lv_room (Nat.le_of_ble_eq_true rfl)) dX12_movesAll_176 ⟨Nat.le_of_ble_eq_true rfl, Nat.le_of_ble_eq_true rfl⟩) hS (fun q _ h => hFc q h) hFc (fun  u t H1 locs ht hvm hw hB hz1 hk1 hS => ?_)
  obtain ⟨f_32, f_33, hP1, hK1, hD1⟩ := hB
  rw [ht] at hP1
  have hK1 := va_K.moved hvm.symm hK1
  obtain ⟨hP, hD⟩ := va_join (wr := [((r 5), .inl ((kf 5), 24, .inl (fun _ => 0))), ((r 6), .inl ((kf 6), 24, .inl (fun _ => 0))), ((r 7), .inl ((kf 7), 24, .inl (fun _ => 0))), ((r 8), .inl ((kf 8), 8, .inl (fun _ => 0))), ((r 9), .inl ((kf 9), 8, .inl (fun _ => 0))), ((r 10), .inl ((kf 10), 8, .inl (fun _ => 0))), ((r 11), .inl ((kf 11), 8, .inl (fun _ => 0))), ((r 4), .inl ((kf 4), 24, .inl (fun _ => 0))), ((r 0), .inl ((kf 0), 6, .inl f_24)), ((r 1), .inl ((kf 1), 36, .inl f_27)), ((r 2), .inl ((kf 2), 24, .inl f_30))]) (w1 := [(h0, .inr (12, fsMk r (nI (76 + 24)) 1)), ((r 12), .inl ((kf 12), 300, .inl f_32)), ((r 3), .inl ((kf 3), 24, .inl f_33))]) hP hD [11, 12, 0] [1, 2, 3, 4, 5, 6, 7, 8, 9, 10, 13] rfl rfl (by decide) (by decide) hk1 hFc hP1 hD1
  generalize H1 = H at hP hS ⊢
  have hP : va_P (dC, dI) vwCl [((r 5), .inl ((kf 5), 24, .inl (fun _ => 0))), ((r 6), .inl ((kf 6), 24, .inl (fun _ => 0))), ((r 7), .inl ((kf 7), 24, .inl (fun _ => 0))), ((r 8), .inl ((kf 8), 8, .inl (fun _ => 0))), ((r 9), .inl ((kf 9), 8, .inl (fun _ => 0))), ((r 10), .inl ((kf 10), 8, .inl (fun _ => 0))), ((r 11), .inl ((kf 11), 8, .inl (fun _ => 0))), ((r 4), .inl ((kf 4), 24, .inl (fun _ => 0))), ((r 0), .inl ((kf 0), 6, .inl f_24)), ((r 1), .inl ((kf 1), 36, .inl f_27)), ((r 2), .inl ((kf 2), 24, .inl f_30)), (h0, .inr (12, fsMk r (nI (76 + 24)) 1)), ((r 12), .inl ((kf 12), 300, .inl f_32)), ((r 3), .inl ((kf 3), 24, .inl f_33))] H := hP
  have hD : va_D A [((r 5), .inl ((kf 5), 24, .inl (fun _ => 0))), ((r 6), .inl ((kf 6), 24, .inl (fun _ => 0))), ((r 7), .inl ((kf 7), 24, .inl (fun _ => 0))), ((r 8), .inl ((kf 8), 8, .inl (fun _ => 0))), ((r 9), .inl ((kf 9), 8, .inl (fun _ => 0))), ((r 10), .inl ((kf 10), 8, .inl (fun _ => 0))), ((r 11), .inl ((kf 11), 8, .inl (fun _ => 0))), ((r 4), .inl ((kf 4), 24, .inl (fun _ => 0))), ((r 0), .inl ((kf 0), 6, .inl f_24)), ((r 1), .inl ((kf 1), 36, .inl f_27)), ((r 2), .inl ((kf 2), 24, .inl f_30)), (h0, .inr (12, fsMk r (nI (76 + 24)) 1)), ((r 12), .inl ((kf 12), 300, .inl f_32)), ((r 3), .inl ((kf 3), 24, .inl f_33))] := hD
  have hP : va_P (dC, dI) vwCl [((r 5), .inl ((kf 5), 24, .inl (fun _ => 0))), ((r 6), .inl ((kf 6), 24, .inl (fun _ => 0))), ((r 7), .inl ((kf 7), 24, .inl (fun _ => 0))), ((r 8), .inl ((kf 8), 8, .inl (fun _ => 0))), ((r 9), .inl ((kf 9), 8, .inl (fun _ => 0))), ((r 10), .inl ((kf 10), 8, .inl (fun _ => 0))), ((r 11), .inl ((kf 11), 8, .inl (fun _ => 0))), ((r 4), .inl ((kf 4), 24, .inl (fun _ => 0))), ((r 0), .inl ((kf 0), 6, .inl f_24)), ((r 1), .inl ((kf 1), 36, .inl f_27)), ((r 2), .inl ((kf 2), 24, .inl f_30)), (h0, .inr (12, fsMk r (nI 100) 1)), ((r 12), .inl ((kf 12), 300, .inl f_32)), ((r 3), .inl ((kf 3), 24, .inl f_33))] H := hP
  have hD : va_D A [((r 5), .inl ((kf 5), 24, .inl (fun _ => 0))), ((r 6), .inl ((kf 6), 24, .inl (fun _ => 0))), ((r 7), .inl ((kf 7), 24, .inl (fun _ => 0))), ((r 8), .inl ((kf 8), 8, .inl (fun _ => 0))), ((r 9), .inl ((kf 9), 8, .inl (fun _ => 0))), ((r 10), .inl ((kf 10), 8, .inl (fun _ => 0))), ((r 11), .inl ((kf 11), 8, .inl (fun _ => 0))), ((r 4), .inl ((kf 4), 24, .inl (fun _ => 0))), ((r 0), .inl ((kf 0), 6, .inl f_24)), ((r 1), .inl ((kf 1), 36, .inl f_27)), ((r 2), .inl ((kf 2), 24, .inl f_30)), (h0, .inr (12, fsMk r (nI 100) 1)), ((r 12), .inl ((kf 12), 300, .inl f_32)), ((r 3), .inl ((kf 3), 24, .inl f_33))] := hD
  refine lv_aload_n hx hb dX12_movesAll_179 rfl (lv_at hl 0 rfl) ?_
  refine lv_aload_n hx hb dX12_movesAll_180 rfl (lv_at hl 0 rfl) ?_
  refine va_get (D := (dC, dI)) (ci := 12) (v := .ref (r 5)) (C := RX12) (T := TX12) (N := 57) hx hb hts (fun w h => List.mem_cons_of_mem _ (jnGB_X12 w h)) hown hK hP 11 rfl rfl 14 (by decide) (hts _ (List.mem_cons_of_mem _ mGB_44)) (fun _ h9 => h9) rfl dX12_movesAll_181 ?_
  have hPc := hP.sub (ws' := [(h0, .inr (12, fsMk r (nI 100) 1)), ((r 12), .inl ((kf 12), 300, .inl f_32)), ((r 5), .inl ((kf 5), 24, .inl (fun _ => 0)))]) [11, 12, 0] rfl
  have hDc := hD.sub (ws' := [(h0, .inr (12, fsMk r (nI 100) 1)), ((r 12), .inl ((kf 12), 300, .inl f_32)), ((r 5), .inl ((kf 5), 24, .inl (fun _ => 0)))]) [11, 12, 0] (by decide) rfl
  have hKc := hK.sub (tys' := [((kf 12), .int), ((kf 5), .int)]) [12, 4] rfl
  have hFc := va_free (wc := [(h0, .inr (12, fsMk r (nI 100) 1)), ((r 12), .inl ((kf 12), 300, .inl f_32)), ((r 5), .inl ((kf 5), 24, .inl (fun _ => 0)))]) hD hS hA [11, 12, 0] rfl
  refine va_callv (va_runV (As := [.ref (r 5)]) (rest := []) ⟨hx, hb, hml, hown, hts⟩ (fX12_movesRow l dC dI H.size h0 r kf (r 5) (kf 5) 24 100 f_32 (fun _ => 0) (by decide)) (cwV 1 hts (gz_gV mGB_74 mGB_75 mGB_76 mGB_5 mGB_73 goodGB) rfl rfl rfl (by decide +kernel) ⟨Nat.le_of_ble_eq_true rfl, Nat.le_of_ble_eq_true rfl⟩) ⟨fun a U g mk q => by obtain ⟨q0, q1, qP, qK, qD⟩ := q; exact ⟨q0, q1, qP, va_K.moved (u := U) (U := U.calling g mk a) (Vm.Alike.refl U.vm) qK, qD⟩, va_recv hKc hPc (ci := 12) (q0 := 0) rfl rfl, fun U hU hW => ⟨rfl, by rw [hU], by rw [hU]; exact hPc, va_K.moved hW.alike hKc, hDc.weaken (fun _ _ _ _ => trivial)⟩⟩ rfl rfl hl.1 rfl (lv_room (Nat.le_of_ble_eq_true rfl)) dX12_movesAll_184 ⟨Nat.le_of_ble_eq_true rfl, Nat.le_of_ble_eq_true rfl⟩) hS (fun q _ h => hFc q h) hFc (fun  u t H1 locs ht hvm hw hB hz1 hk1 hS => ?_)
  obtain ⟨f_35, f_36, hP1, hK1, hD1⟩ := hB
  rw [ht] at hP1
  have hK1 := va_K.moved hvm.symm hK1
  obtain ⟨hP, hD⟩ := va_join (wr := [((r 6), .inl ((kf 6), 24, .inl (fun _ => 0))), ((r 7), .inl ((kf 7), 24, .inl (fun _ => 0))), ((r 8), .inl ((kf 8), 8, .inl (fun _ => 0))), ((r 9), .inl ((kf 9), 8, .inl (fun _ => 0))), ((r 10), .inl ((kf 10), 8, .inl (fun _ => 0))), ((r 11), .inl ((kf 11), 8, .inl (fun _ => 0))), ((r 4), .inl ((kf 4), 24, .inl (fun _ => 0))), ((r 0), .inl ((kf 0), 6, .inl f_24)), ((r 1), .inl ((kf 1), 36, .inl f_27)), ((r 2), .inl ((kf 2), 24, .inl f_30)), ((r 3), .inl ((kf 3), 24, .inl f_33))]) (w1 := [(h0, .inr (12, fsMk r (nI (100 + 24)) 1)), ((r 12), .inl ((kf 12), 300, .inl f_35)), ((r 5), .inl ((kf 5), 24, .inl f_36))]) hP hD [11, 12, 0] [1, 2, 3, 4, 5, 6, 7, 8, 9, 10, 13] rfl rfl (by decide) (by decide) hk1 hFc hP1 hD1
  generalize H1 = H at hP hS ⊢
  have hP : va_P (dC, dI) vwCl [((r 6), .inl ((kf 6), 24, .inl (fun _ => 0))), ((r 7), .inl ((kf 7), 24, .inl (fun _ => 0))), ((r 8), .inl ((kf 8), 8, .inl (fun _ => 0))), ((r 9), .inl ((kf 9), 8, .inl (fun _ => 0))), ((r 10), .inl ((kf 10), 8, .inl (fun _ => 0))), ((r 11), .inl ((kf 11), 8, .inl (fun _ => 0))), ((r 4), .inl ((kf 4), 24, .inl (fun _ => 0))), ((r 0), .inl ((kf 0), 6, .inl f_24)), ((r 1), .inl ((kf 1), 36, .inl f_27)), ((r 2), .inl ((kf 2), 24, .inl f_30)), ((r 3), .inl ((kf 3), 24, .inl f_33)), (h0, .inr (12, fsMk r (nI (100 + 24)) 1)), ((r 12), .inl ((kf 12), 300, .inl f_35)), ((r 5), .inl ((kf 5), 24, .inl f_36))] H := hP
  have hD : va_D A [((r 6), .inl ((kf 6), 24, .inl (fun _ => 0))), ((r 7), .inl ((kf 7), 24, .inl (fun _ => 0))), ((r 8), .inl ((kf 8), 8, .inl (fun _ => 0))), ((r 9), .inl ((kf 9), 8, .inl (fun _ => 0))), ((r 10), .inl ((kf 10), 8, .inl (fun _ => 0))), ((r 11), .inl ((kf 11), 8, .inl (fun _ => 0))), ((r 4), .inl ((kf 4), 24, .inl (fun _ => 0))), ((r 0), .inl ((kf 0), 6, .inl f_24)), ((r 1), .inl ((kf 1), 36, .inl f_27)), ((r 2), .inl ((kf 2), 24, .inl f_30)), ((r 3), .inl ((kf 3), 24, .inl f_33)), (h0, .inr (12, fsMk r (nI (100 + 24)) 1)), ((r 12), .inl ((kf 12), 300, .inl f_35)), ((r 5), .inl ((kf 5), 24, .inl f_36))] := hD
  have hP : va_P (dC, dI) vwCl [((r 6), .inl ((kf 6), 24, .inl (fun _ => 0))), ((r 7), .inl ((kf 7), 24, .inl (fun _ => 0))), ((r 8), .inl ((kf 8), 8, .inl (fun _ => 0))), ((r 9), .inl ((kf 9), 8, .inl (fun _ => 0))), ((r 10), .inl ((kf 10), 8, .inl (fun _ => 0))), ((r 11), .inl ((kf 11), 8, .inl (fun _ => 0))), ((r 4), .inl ((kf 4), 24, .inl (fun _ => 0))), ((r 0), .inl ((kf 0), 6, .inl f_24)), ((r 1), .inl ((kf 1), 36, .inl f_27)), ((r 2), .inl ((kf 2), 24, .inl f_30)), ((r 3), .inl ((kf 3), 24, .inl f_33)), (h0, .inr (12, fsMk r (nI 124) 1)), ((r 12), .inl ((kf 12), 300, .inl f_35)), ((r 5), .inl ((kf 5), 24, .inl f_36))] H := hP
  have hD : va_D A [((r 6), .inl ((kf 6), 24, .inl (fun _ => 0))), ((r 7), .inl ((kf 7), 24, .inl (fun _ => 0))), ((r 8), .inl ((kf 8), 8, .inl (fun _ => 0))), ((r 9), .inl ((kf 9), 8, .inl (fun _ => 0))), ((r 10), .inl ((kf 10), 8, .inl (fun _ => 0))), ((r 11), .inl ((kf 11), 8, .inl (fun _ => 0))), ((r 4), .inl ((kf 4), 24, .inl (fun _ => 0))), ((r 0), .inl ((kf 0), 6, .inl f_24)), ((r 1), .inl ((kf 1), 36, .inl f_27)), ((r 2), .inl ((kf 2), 24, .inl f_30)), ((r 3), .inl ((kf 3), 24, .inl f_33)), (h0, .inr (12, fsMk r (nI 124) 1)), ((r 12), .inl ((kf 12), 300, .inl f_35)), ((r 5), .inl ((kf 5), 24, .inl f_36))] := hD
  refine lv_aload_n hx hb dX12_movesAll_187 rfl (lv_at hl 0 rfl) ?_
  refine lv_aload_n hx hb dX12_movesAll_188 rfl (lv_at hl 0 rfl) ?_
  refine va_get (D := (dC, dI)) (ci := 12) (v := .ref (r 6)) (C := RX12) (T := TX12) (N := 57) hx hb hts (fun w h => List.mem_cons_of_mem _ (jnGB_X12 w h)) hown hK hP 11 rfl rfl 15 (by decide) (hts _ (List.mem_cons_of_mem _ mGB_45)) (fun _ h9 => h9) rfl dX12_movesAll_189 ?_
  have hPc := hP.sub (ws' := [(h0, .inr (12, fsMk r (nI 124) 1)), ((r 12), .inl ((kf 12), 300, .inl f_35)), ((r 6), .inl ((kf 6), 24, .inl (fun _ => 0)))]) [11, 12, 0] rfl
  have hDc := hD.sub (ws' := [(h0, .inr (12, fsMk r (nI 124) 1)), ((r 12), .inl ((kf 12), 300, .inl f_35)), ((r 6), .inl ((kf 6), 24, .inl (fun _ => 0)))]) [11, 12, 0] (by decide) rfl
  have hKc := hK.sub (tys' := [((kf 12), .int), ((kf 6), .int)]) [12, 5] rfl
  have hFc := va_free (wc := [(h0, .inr (12, fsMk r (nI 124) 1)), ((r 12), .inl ((kf 12), 300, .inl f_35)), ((r 6), .inl ((kf 6), 24, .inl (fun _ => 0)))]) hD hS hA [11, 12, 0] rfl
  refine va_callv (va_runV (As := [.ref (r 6)]) (rest := []) ⟨hx, hb, hml, hown, hts⟩ (fX12_movesRow l dC dI H.size h0 r kf (r 6) (kf 6) 24 124 f_35 (fun _ => 0) (by decide)) (cwV 1 hts (gz_gV mGB_74 mGB_75 mGB_76 mGB_5 mGB_73 goodGB) rfl rfl rfl (by decide +kernel) ⟨Nat.le_of_ble_eq_true rfl, Nat.le_of_ble_eq_true rfl⟩) ⟨fun a U g mk q => by obtain ⟨q0, q1, qP, qK, qD⟩ := q; exact ⟨q0, q1, qP, va_K.moved (u := U) (U := U.calling g mk a) (Vm.Alike.refl U.vm) qK, qD⟩, va_recv hKc hPc (ci := 12) (q0 := 0) rfl rfl, fun U hU hW => ⟨rfl, by rw [hU], by rw [hU]; exact hPc, va_K.moved hW.alike hKc, hDc.weaken (fun _ _ _ _ => trivial)⟩⟩ rfl rfl hl.1 rfl (lv_room (Nat.le_of_ble_eq_true rfl)) dX12_movesAll_192 ⟨Nat.le_of_ble_eq_true rfl, Nat.le_of_ble_eq_true rfl⟩) hS (fun q _ h => hFc q h) hFc (fun  u t H1 locs ht hvm hw hB hz1 hk1 hS => ?_)
  obtain ⟨f_38, f_39, hP1, hK1, hD1⟩ := hB
  rw [ht] at hP1
  have hK1 := va_K.moved hvm.symm hK1
  obtain ⟨hP, hD⟩ := va_join (wr := [((r 7), .inl ((kf 7), 24, .inl (fun _ => 0))), ((r 8), .inl ((kf 8), 8, .inl (fun _ => 0))), ((r 9), .inl ((kf 9), 8, .inl (fun _ => 0))), ((r 10), .inl ((kf 10), 8, .inl (fun _ => 0))), ((r 11), .inl ((kf 11), 8, .inl (fun _ => 0))), ((r 4), .inl ((kf 4), 24, .inl (fun _ => 0))), ((r 0), .inl ((kf 0), 6, .inl f_24)), ((r 1), .inl ((kf 1), 36, .inl f_27)), ((r 2), .inl ((kf 2), 24, .inl f_30)), ((r 3), .inl ((kf 3), 24, .inl f_33)), ((r 5), .inl ((kf 5), 24, .inl f_36))]) (w1 := [(h0, .inr (12, fsMk r (nI (124 + 24)) 1)), ((r 12), .inl ((kf 12), 300, .inl f_38)), ((r 6), .inl ((kf 6), 24, .inl f_39))]) hP hD [11, 12, 0] [1, 2, 3, 4, 5, 6, 7, 8, 9, 10, 13] rfl rfl (by decide) (by decide) hk1 hFc hP1 hD1
  generalize H1 = H at hP hS ⊢
  have hP : va_P (dC, dI) vwCl [((r 7), .inl ((kf 7), 24, .inl (fun _ => 0))), ((r 8), .inl ((kf 8), 8, .inl (fun _ => 0))), ((r 9), .inl ((kf 9), 8, .inl (fun _ => 0))), ((r 10), .inl ((kf 10), 8, .inl (fun _ => 0))), ((r 11), .inl ((kf 11), 8, .inl (fun _ => 0))), ((r 4), .inl ((kf 4), 24, .inl (fun _ => 0))), ((r 0), .inl ((kf 0), 6, .inl f_24)), ((r 1), .inl ((kf 1), 36, .inl f_27)), ((r 2), .inl ((kf 2), 24, .inl f_30)), ((r 3), .inl ((kf 3), 24, .inl f_33)), ((r 5), .inl ((kf 5), 24, .inl f_36)), (h0, .inr (12, fsMk r (nI (124 + 24)) 1)), ((r 12), .inl ((kf 12), 300, .inl f_38)), ((r 6), .inl ((kf 6), 24, .inl f_39))] H := hP
  have hD : va_D A [((r 7), .inl ((kf 7), 24, .inl (fun _ => 0))), ((r 8), .inl ((kf 8), 8, .inl (fun _ => 0))), ((r 9), .inl ((kf 9), 8, .inl (fun _ => 0))), ((r 10), .inl ((kf 10), 8, .inl (fun _ => 0))), ((r 11), .inl ((kf 11), 8, .inl (fun _ => 0))), ((r 4), .inl ((kf 4), 24, .inl (fun _ => 0))), ((r 0), .inl ((kf 0), 6, .inl f_24)), ((r 1), .inl ((kf 1), 36, .inl f_27)), ((r 2), .inl ((kf 2), 24, .inl f_30)), ((r 3), .inl ((kf 3), 24, .inl f_33)), ((r 5), .inl ((kf 5), 24, .inl f_36)), (h0, .inr (12, fsMk r (nI (124 + 24)) 1)), ((r 12), .inl ((kf 12), 300, .inl f_38)), ((r 6), .inl ((kf 6), 24, .inl f_39))] := hD
  have hP : va_P (dC, dI) vwCl [((r 7), .inl ((kf 7), 24, .inl (fun _ => 0))), ((r 8), .inl ((kf 8), 8, .inl (fun _ => 0))), ((r 9), .inl ((kf 9), 8, .inl (fun _ => 0))), ((r 10), .inl ((kf 10), 8, .inl (fun _ => 0))), ((r 11), .inl ((kf 11), 8, .inl (fun _ => 0))), ((r 4), .inl ((kf 4), 24, .inl (fun _ => 0))), ((r 0), .inl ((kf 0), 6, .inl f_24)), ((r 1), .inl ((kf 1), 36, .inl f_27)), ((r 2), .inl ((kf 2), 24, .inl f_30)), ((r 3), .inl ((kf 3), 24, .inl f_33)), ((r 5), .inl ((kf 5), 24, .inl f_36)), (h0, .inr (12, fsMk r (nI 148) 1)), ((r 12), .inl ((kf 12), 300, .inl f_38)), ((r 6), .inl ((kf 6), 24, .inl f_39))] H := hP
  have hD : va_D A [((r 7), .inl ((kf 7), 24, .inl (fun _ => 0))), ((r 8), .inl ((kf 8), 8, .inl (fun _ => 0))), ((r 9), .inl ((kf 9), 8, .inl (fun _ => 0))), ((r 10), .inl ((kf 10), 8, .inl (fun _ => 0))), ((r 11), .inl ((kf 11), 8, .inl (fun _ => 0))), ((r 4), .inl ((kf 4), 24, .inl (fun _ => 0))), ((r 0), .inl ((kf 0), 6, .inl f_24)), ((r 1), .inl ((kf 1), 36, .inl f_27)), ((r 2), .inl ((kf 2), 24, .inl f_30)), ((r 3), .inl ((kf 3), 24, .inl f_33)), ((r 5), .inl ((kf 5), 24, .inl f_36)), (h0, .inr (12, fsMk r (nI 148) 1)), ((r 12), .inl ((kf 12), 300, .inl f_38)), ((r 6), .inl ((kf 6), 24, .inl f_39))] := hD
  refine lv_aload_n hx hb dX12_movesAll_195 rfl (lv_at hl 0 rfl) ?_
  refine lv_aload_n hx hb dX12_movesAll_196 rfl (lv_at hl 0 rfl) ?_
  refine va_get (D := (dC, dI)) (ci := 12) (v := .ref (r 7)) (C := RX12) (T := TX12) (N := 57) hx hb hts (fun w h => List.mem_cons_of_mem _ (jnGB_X12 w h)) hown hK hP 11 rfl rfl 16 (by decide) (hts _ (List.mem_cons_of_mem _ mGB_46)) (fun _ h9 => h9) rfl dX12_movesAll_197 ?_
  have hPc := hP.sub (ws' := [(h0, .inr (12, fsMk r (nI 148) 1)), ((r 12), .inl ((kf 12), 300, .inl f_38)), ((r 7), .inl ((kf 7), 24, .inl (fun _ => 0)))]) [11, 12, 0] rfl
  have hDc := hD.sub (ws' := [(h0, .inr (12, fsMk r (nI 148) 1)), ((r 12), .inl ((kf 12), 300, .inl f_38)), ((r 7), .inl ((kf 7), 24, .inl (fun _ => 0)))]) [11, 12, 0] (by decide) rfl
  have hKc := hK.sub (tys' := [((kf 12), .int), ((kf 7), .int)]) [12, 6] rfl
  have hFc := va_free (wc := [(h0, .inr (12, fsMk r (nI 148) 1)), ((r 12), .inl ((kf 12), 300, .inl f_38)), ((r 7), .inl ((kf 7), 24, .inl (fun _ => 0)))]) hD hS hA [11, 12, 0] rfl
  refine va_callv (va_runV (As := [.ref (r 7)]) (rest := []) ⟨hx, hb, hml, hown, hts⟩ (fX12_movesRow l dC dI H.size h0 r kf (r 7) (kf 7) 24 148 f_38 (fun _ => 0) (by decide)) (cwV 1 hts (gz_gV mGB_74 mGB_75 mGB_76 mGB_5 mGB_73 goodGB) rfl rfl rfl (by decide +kernel) ⟨Nat.le_of_ble_eq_true rfl, Nat.le_of_ble_eq_true rfl⟩) ⟨fun a U g mk q => by obtain ⟨q0, q1, qP, qK, qD⟩ := q; exact ⟨q0, q1, qP, va_K.moved (u := U) (U := U.calling g mk a) (Vm.Alike.refl U.vm) qK, qD⟩, va_recv hKc hPc (ci := 12) (q0 := 0) rfl rfl, fun U hU hW => ⟨rfl, by rw [hU], by rw [hU]; exact hPc, va_K.moved hW.alike hKc, hDc.weaken (fun _ _ _ _ => trivial)⟩⟩ rfl rfl hl.1 rfl (lv_room (Nat.le_of_ble_eq_true rfl)) dX12_movesAll_200 ⟨Nat.le_of_ble_eq_true rfl, Nat.le_of_ble_eq_true rfl⟩) hS (fun q _ h => hFc q h) hFc (fun  u t H1 locs ht hvm hw hB hz1 hk1 hS => ?_)
  obtain ⟨f_41, f_42, hP1, hK1, hD1⟩ := hB
  rw [ht] at hP1
  have hK1 := va_K.moved hvm.symm hK1
  obtain ⟨hP, hD⟩ := va_join (wr := [((r 8), .inl ((kf 8), 8, .inl (fun _ => 0))), ((r 9), .inl ((kf 9), 8, .inl (fun _ => 0))), ((r 10), .inl ((kf 10), 8, .inl (fun _ => 0))), ((r 11), .inl ((kf 11), 8, .inl (fun _ => 0))), ((r 4), .inl ((kf 4), 24, .inl (fun _ => 0))), ((r 0), .inl ((kf 0), 6, .inl f_24)), ((r 1), .inl ((kf 1), 36, .inl f_27)), ((r 2), .inl ((kf 2), 24, .inl f_30)), ((r 3), .inl ((kf 3), 24, .inl f_33)), ((r 5), .inl ((kf 5), 24, .inl f_36)), ((r 6), .inl ((kf 6), 24, .inl f_39))]) (w1 := [(h0, .inr (12, fsMk r (nI (148 + 24)) 1)), ((r 12), .inl ((kf 12), 300, .inl f_41)), ((r 7), .inl ((kf 7), 24, .inl f_42))]) hP hD [11, 12, 0] [1, 2, 3, 4, 5, 6, 7, 8, 9, 10, 13] rfl rfl (by decide) (by decide) hk1 hFc hP1 hD1
  generalize H1 = H at hP hS ⊢
  have hP : va_P (dC, dI) vwCl [((r 8), .inl ((kf 8), 8, .inl (fun _ => 0))), ((r 9), .inl ((kf 9), 8, .inl (fun _ => 0))), ((r 10), .inl ((kf 10), 8, .inl (fun _ => 0))), ((r 11), .inl ((kf 11), 8, .inl (fun _ => 0))), ((r 4), .inl ((kf 4), 24, .inl (fun _ => 0))), ((r 0), .inl ((kf 0), 6, .inl f_24)), ((r 1), .inl ((kf 1), 36, .inl f_27)), ((r 2), .inl ((kf 2), 24, .inl f_30)), ((r 3), .inl ((kf 3), 24, .inl f_33)), ((r 5), .inl ((kf 5), 24, .inl f_36)), ((r 6), .inl ((kf 6), 24, .inl f_39)), (h0, .inr (12, fsMk r (nI (148 + 24)) 1)), ((r 12), .inl ((kf 12), 300, .inl f_41)), ((r 7), .inl ((kf 7), 24, .inl f_42))] H := hP
  have hD : va_D A [((r 8), .inl ((kf 8), 8, .inl (fun _ => 0))), ((r 9), .inl ((kf 9), 8, .inl (fun _ => 0))), ((r 10), .inl ((kf 10), 8, .inl (fun _ => 0))), ((r 11), .inl ((kf 11), 8, .inl (fun _ => 0))), ((r 4), .inl ((kf 4), 24, .inl (fun _ => 0))), ((r 0), .inl ((kf 0), 6, .inl f_24)), ((r 1), .inl ((kf 1), 36, .inl f_27)), ((r 2), .inl ((kf 2), 24, .inl f_30)), ((r 3), .inl ((kf 3), 24, .inl f_33)), ((r 5), .inl ((kf 5), 24, .inl f_36)), ((r 6), .inl ((kf 6), 24, .inl f_39)), (h0, .inr (12, fsMk r (nI (148 + 24)) 1)), ((r 12), .inl ((kf 12), 300, .inl f_41)), ((r 7), .inl ((kf 7), 24, .inl f_42))] := hD
  have hP : va_P (dC, dI) vwCl [((r 8), .inl ((kf 8), 8, .inl (fun _ => 0))), ((r 9), .inl ((kf 9), 8, .inl (fun _ => 0))), ((r 10), .inl ((kf 10), 8, .inl (fun _ => 0))), ((r 11), .inl ((kf 11), 8, .inl (fun _ => 0))), ((r 4), .inl ((kf 4), 24, .inl (fun _ => 0))), ((r 0), .inl ((kf 0), 6, .inl f_24)), ((r 1), .inl ((kf 1), 36, .inl f_27)), ((r 2), .inl ((kf 2), 24, .inl f_30)), ((r 3), .inl ((kf 3), 24, .inl f_33)), ((r 5), .inl ((kf 5), 24, .inl f_36)), ((r 6), .inl ((kf 6), 24, .inl f_39)), (h0, .inr (12, fsMk r (nI 172) 1)), ((r 12), .inl ((kf 12), 300, .inl f_41)), ((r 7), .inl ((kf 7), 24, .inl f_42))] H := hP
  have hD : va_D A [((r 8), .inl ((kf 8), 8, .inl (fun _ => 0))), ((r 9), .inl ((kf 9), 8, .inl (fun _ => 0))), ((r 10), .inl ((kf 10), 8, .inl (fun _ => 0))), ((r 11), .inl ((kf 11), 8, .inl (fun _ => 0))), ((r 4), .inl ((kf 4), 24, .inl (fun _ => 0))), ((r 0), .inl ((kf 0), 6, .inl f_24)), ((r 1), .inl ((kf 1), 36, .inl f_27)), ((r 2), .inl ((kf 2), 24, .inl f_30)), ((r 3), .inl ((kf 3), 24, .inl f_33)), ((r 5), .inl ((kf 5), 24, .inl f_36)), ((r 6), .inl ((kf 6), 24, .inl f_39)), (h0, .inr (12, fsMk r (nI 172) 1)), ((r 12), .inl ((kf 12), 300, .inl f_41)), ((r 7), .inl ((kf 7), 24, .inl f_42))] := hD
  refine lv_aload_n hx hb dX12_movesAll_203 rfl (lv_at hl 0 rfl) ?_
  refine lv_aload_n hx hb dX12_movesAll_204 rfl (lv_at hl 0 rfl) ?_
  refine va_get (D := (dC, dI)) (ci := 12) (v := .ref (r 8)) (C := RX12) (T := TX12) (N := 57) hx hb hts (fun w h => List.mem_cons_of_mem _ (jnGB_X12 w h)) hown hK hP 11 rfl rfl 18 (by decide) (hts _ (List.mem_cons_of_mem _ mGB_47)) (fun _ h9 => h9) rfl dX12_movesAll_205 ?_
  have hPc := hP.sub (ws' := [(h0, .inr (12, fsMk r (nI 172) 1)), ((r 12), .inl ((kf 12), 300, .inl f_41)), ((r 8), .inl ((kf 8), 8, .inl (fun _ => 0)))]) [11, 12, 0] rfl
  have hDc := hD.sub (ws' := [(h0, .inr (12, fsMk r (nI 172) 1)), ((r 12), .inl ((kf 12), 300, .inl f_41)), ((r 8), .inl ((kf 8), 8, .inl (fun _ => 0)))]) [11, 12, 0] (by decide) rfl
  have hKc := hK.sub (tys' := [((kf 12), .int), ((kf 8), .int)]) [12, 7] rfl
  have hFc := va_free (wc := [(h0, .inr (12, fsMk r (nI 172) 1)), ((r 12), .inl ((kf 12), 300, .inl f_41)), ((r 8), .inl ((kf 8), 8, .inl (fun _ => 0)))]) hD hS hA [11, 12, 0] rfl
  refine va_callv (va_runV (As := [.ref (r 8)]) (rest := []) ⟨hx, hb, hml, hown, hts⟩ (fX12_movesRow l dC dI H.size h0 r kf (r 8) (kf 8) 8 172 f_41 (fun _ => 0) (by decide)) (cwV 1 hts (gz_gV mGB_74 mGB_75 mGB_76 mGB_5 mGB_73 goodGB) rfl rfl rfl (by decide +kernel) ⟨Nat.le_of_ble_eq_true rfl, Nat.le_of_ble_eq_true rfl⟩) ⟨fun a U g mk q => by obtain ⟨q0, q1, qP, qK, qD⟩ := q; exact ⟨q0, q1, qP, va_K.moved (u := U) (U := U.calling g mk a) (Vm.Alike.refl U.vm) qK, qD⟩, va_recv hKc hPc (ci := 12) (q0 := 0) rfl rfl, fun U hU hW => ⟨rfl, by rw [hU], by rw [hU]; exact hPc, va_K.moved hW.alike hKc, hDc.weaken (fun _ _ _ _ => trivial)⟩⟩ rfl rfl hl.1 rfl (lv_room (Nat.le_of_ble_eq_true rfl)) dX12_movesAll_208 ⟨Nat.le_of_ble_eq_true rfl, Nat.le_of_ble_eq_true rfl⟩) hS (fun q _ h => hFc q h) hFc (fun  u t H1 locs ht hvm hw hB hz1 hk1 hS => ?_)
  obtain ⟨f_44, f_45, hP1, hK1, hD1⟩ := hB
  rw [ht] at hP1
  have hK1 := va_K.moved hvm.symm hK1
  obtain ⟨hP, hD⟩ := va_join (wr := [((r 9), .inl ((kf 9), 8, .inl (fun _ => 0))), ((r 10), .inl ((kf 10), 8, .inl (fun _ => 0))), ((r 11), .inl ((kf 11), 8, .inl (fun _ => 0))), ((r 4), .inl ((kf 4), 24, .inl (fun _ => 0))), ((r 0), .inl ((kf 0), 6, .inl f_24)), ((r 1), .inl ((kf 1), 36, .inl f_27)), ((r 2), .inl ((kf 2), 24, .inl f_30)), ((r 3), .inl ((kf 3), 24, .inl f_33)), ((r 5), .inl ((kf 5), 24, .inl f_36)), ((r 6), .inl ((kf 6), 24, .inl f_39)), ((r 7), .inl ((kf 7), 24, .inl f_42))]) (w1 := [(h0, .inr (12, fsMk r (nI (172 + 8)) 1)), ((r 12), .inl ((kf 12), 300, .inl f_44)), ((r 8), .inl ((kf 8), 8, .inl f_45))]) hP hD [11, 12, 0] [1, 2, 3, 4, 5, 6, 7, 8, 9, 10, 13] rfl rfl (by decide) (by decide) hk1 hFc hP1 hD1
  generalize H1 = H at hP hS ⊢
  have hP : va_P (dC, dI) vwCl [((r 9), .inl ((kf 9), 8, .inl (fun _ => 0))), ((r 10), .inl ((kf 10), 8, .inl (fun _ => 0))), ((r 11), .inl ((kf 11), 8, .inl (fun _ => 0))), ((r 4), .inl ((kf 4), 24, .inl (fun _ => 0))), ((r 0), .inl ((kf 0), 6, .inl f_24)), ((r 1), .inl ((kf 1), 36, .inl f_27)), ((r 2), .inl ((kf 2), 24, .inl f_30)), ((r 3), .inl ((kf 3), 24, .inl f_33)), ((r 5), .inl ((kf 5), 24, .inl f_36)), ((r 6), .inl ((kf 6), 24, .inl f_39)), ((r 7), .inl ((kf 7), 24, .inl f_42)), (h0, .inr (12, fsMk r (nI (172 + 8)) 1)), ((r 12), .inl ((kf 12), 300, .inl f_44)), ((r 8), .inl ((kf 8), 8, .inl f_45))] H := hP
  have hD : va_D A [((r 9), .inl ((kf 9), 8, .inl (fun _ => 0))), ((r 10), .inl ((kf 10), 8, .inl (fun _ => 0))), ((r 11), .inl ((kf 11), 8, .inl (fun _ => 0))), ((r 4), .inl ((kf 4), 24, .inl (fun _ => 0))), ((r 0), .inl ((kf 0), 6, .inl f_24)), ((r 1), .inl ((kf 1), 36, .inl f_27)), ((r 2), .inl ((kf 2), 24, .inl f_30)), ((r 3), .inl ((kf 3), 24, .inl f_33)), ((r 5), .inl ((kf 5), 24, .inl f_36)), ((r 6), .inl ((kf 6), 24, .inl f_39)), ((r 7), .inl ((kf 7), 24, .inl f_42)), (h0, .inr (12, fsMk r (nI (172 + 8)) 1)), ((r 12), .inl ((kf 12), 300, .inl f_44)), ((r 8), .inl ((kf 8), 8, .inl f_45))] := hD
  have hP : va_P (dC, dI) vwCl [((r 9), .inl ((kf 9), 8, .inl (fun _ => 0))), ((r 10), .inl ((kf 10), 8, .inl (fun _ => 0))), ((r 11), .inl ((kf 11), 8, .inl (fun _ => 0))), ((r 4), .inl ((kf 4), 24, .inl (fun _ => 0))), ((r 0), .inl ((kf 0), 6, .inl f_24)), ((r 1), .inl ((kf 1), 36, .inl f_27)), ((r 2), .inl ((kf 2), 24, .inl f_30)), ((r 3), .inl ((kf 3), 24, .inl f_33)), ((r 5), .inl ((kf 5), 24, .inl f_36)), ((r 6), .inl ((kf 6), 24, .inl f_39)), ((r 7), .inl ((kf 7), 24, .inl f_42)), (h0, .inr (12, fsMk r (nI 180) 1)), ((r 12), .inl ((kf 12), 300, .inl f_44)), ((r 8), .inl ((kf 8), 8, .inl f_45))] H := hP
  have hD : va_D A [((r 9), .inl ((kf 9), 8, .inl (fun _ => 0))), ((r 10), .inl ((kf 10), 8, .inl (fun _ => 0))), ((r 11), .inl ((kf 11), 8, .inl (fun _ => 0))), ((r 4), .inl ((kf 4), 24, .inl (fun _ => 0))), ((r 0), .inl ((kf 0), 6, .inl f_24)), ((r 1), .inl ((kf 1), 36, .inl f_27)), ((r 2), .inl ((kf 2), 24, .inl f_30)), ((r 3), .inl ((kf 3), 24, .inl f_33)), ((r 5), .inl ((kf 5), 24, .inl f_36)), ((r 6), .inl ((kf 6), 24, .inl f_39)), ((r 7), .inl ((kf 7), 24, .inl f_42)), (h0, .inr (12, fsMk r (nI 180) 1)), ((r 12), .inl ((kf 12), 300, .inl f_44)), ((r 8), .inl ((kf 8), 8, .inl f_45))] := hD
  refine lv_aload_n hx hb dX12_movesAll_211 rfl (lv_at hl 0 rfl) ?_
  refine lv_aload_n hx hb dX12_movesAll_212 rfl (lv_at hl 0 rfl) ?_
  refine va_get (D := (dC, dI)) (ci := 12) (v := .ref (r 9)) (C := RX12) (T := TX12) (N := 57) hx hb hts (fun w h => List.mem_cons_of_mem _ (jnGB_X12 w h)) hown hK hP 11 rfl rfl 19 (by decide) (hts _ (List.mem_cons_of_mem _ mGB_48)) (fun _ h9 => h9) rfl dX12_movesAll_213 ?_
  have hPc := hP.sub (ws' := [(h0, .inr (12, fsMk r (nI 180) 1)), ((r 12), .inl ((kf 12), 300, .inl f_44)), ((r 9), .inl ((kf 9), 8, .inl (fun _ => 0)))]) [11, 12, 0] rfl
  have hDc := hD.sub (ws' := [(h0, .inr (12, fsMk r (nI 180) 1)), ((r 12), .inl ((kf 12), 300, .inl f_44)), ((r 9), .inl ((kf 9), 8, .inl (fun _ => 0)))]) [11, 12, 0] (by decide) rfl
  have hKc := hK.sub (tys' := [((kf 12), .int), ((kf 9), .int)]) [12, 8] rfl
  have hFc := va_free (wc := [(h0, .inr (12, fsMk r (nI 180) 1)), ((r 12), .inl ((kf 12), 300, .inl f_44)), ((r 9), .inl ((kf 9), 8, .inl (fun _ => 0)))]) hD hS hA [11, 12, 0] rfl
  refine va_callv (va_runV (As := [.ref (r 9)]) (rest := []) ⟨hx, hb, hml, hown, hts⟩ (fX12_movesRow l dC dI H.size h0 r kf (r 9) (kf 9) 8 180 f_44 (fun _ => 0) (by decide)) (cwV 1 hts (gz_gV mGB_74 mGB_75 mGB_76 mGB_5 mGB_73 goodGB) rfl rfl rfl (by decide +kernel) ⟨Nat.le_of_ble_eq_true rfl, Nat.le_of_ble_eq_true rfl⟩) ⟨fun a U g mk q => by obtain ⟨q0, q1, qP, qK, qD⟩ := q; exact ⟨q0, q1, qP, va_K.moved (u := U) (U := U.calling g mk a) (Vm.Alike.refl U.vm) qK, qD⟩, va_recv hKc hPc (ci := 12) (q0 := 0) rfl rfl, fun U hU hW => ⟨rfl, by rw [hU], by rw [hU]; exact hPc, va_K.moved hW.alike hKc, hDc.weaken (fun _ _ _ _ => trivial)⟩⟩ rfl rfl hl.1 rfl (lv_room (Nat.le_of_ble_eq_true rfl)) dX12_movesAll_216 ⟨Nat.le_of_ble_eq_true rfl, Nat.le_of_ble_eq_true rfl⟩) hS (fun q _ h => hFc q h) hFc (fun  u t H1 locs ht hvm hw hB hz1 hk1 hS => ?_)
  obtain ⟨f_47, f_48, hP1, hK1, hD1⟩ := hB
  rw [ht] at hP1
  have hK1 := va_K.moved hvm.symm hK1
  obtain ⟨hP, hD⟩ := va_join (wr := [((r 10), .inl ((kf 10), 8, .inl (fun _ => 0))), ((r 11), .inl ((kf 11), 8, .inl (fun _ => 0))), ((r 4), .inl ((kf 4), 24, .inl (fun _ => 0))), ((r 0), .inl ((kf 0), 6, .inl f_24)), ((r 1), .inl ((kf 1), 36, .inl f_27)), ((r 2), .inl ((kf 2), 24, .inl f_30)), ((r 3), .inl ((kf 3), 24, .inl f_33)), ((r 5), .inl ((kf 5), 24, .inl f_36)), ((r 6), .inl ((kf 6), 24, .inl f_39)), ((r 7), .inl ((kf 7), 24, .inl f_42)), ((r 8), .inl ((kf 8), 8, .inl f_45))]) (w1 := [(h0, .inr (12, fsMk r (nI (180 + 8)) 1)), ((r 12), .inl ((kf 12), 300, .inl f_47)), ((r 9), .inl ((kf 9), 8, .inl f_48))]) hP hD [11, 12, 0] [1, 2, 3, 4, 5, 6, 7, 8, 9, 10, 13] rfl rfl (by decide) (by decide) hk1 hFc hP1 hD1
  generalize H1 = H at hP hS ⊢
  have hP : va_P (dC, dI) vwCl [((r 10), .inl ((kf 10), 8, .inl (fun _ => 0))), ((r 11), .inl ((kf 11), 8, .inl (fun _ => 0))), ((r 4), .inl ((kf 4), 24, .inl (fun _ => 0))), ((r 0), .inl ((kf 0), 6, .inl f_24)), ((r 1), .inl ((kf 1), 36, .inl f_27)), ((r 2), .inl ((kf 2), 24, .inl f_30)), ((r 3), .inl ((kf 3), 24, .inl f_33)), ((r 5), .inl ((kf 5), 24, .inl f_36)), ((r 6), .inl ((kf 6), 24, .inl f_39)), ((r 7), .inl ((kf 7), 24, .inl f_42)), ((r 8), .inl ((kf 8), 8, .inl f_45)), (h0, .inr (12, fsMk r (nI (180 + 8)) 1)), ((r 12), .inl ((kf 12), 300, .inl f_47)), ((r 9), .inl ((kf 9), 8, .inl f_48))] H := hP
  have hD : va_D A [((r 10), .inl ((kf 10), 8, .inl (fun _ => 0))), ((r 11), .inl ((kf 11), 8, .inl (fun _ => 0))), ((r 4), .inl ((kf 4), 24, .inl (fun _ => 0))), ((r 0), .inl ((kf 0), 6, .inl f_24)), ((r 1), .inl ((kf 1), 36, .inl f_27)), ((r 2), .inl ((kf 2), 24, .inl f_30)), ((r 3), .inl ((kf 3), 24, .inl f_33)), ((r 5), .inl ((kf 5), 24, .inl f_36)), ((r 6), .inl ((kf 6), 24, .inl f_39)), ((r 7), .inl ((kf 7), 24, .inl f_42)), ((r 8), .inl ((kf 8), 8, .inl f_45)), (h0, .inr (12, fsMk r (nI (180 + 8)) 1)), ((r 12), .inl ((kf 12), 300, .inl f_47)), ((r 9), .inl ((kf 9), 8, .inl f_48))] := hD
  have hP : va_P (dC, dI) vwCl [((r 10), .inl ((kf 10), 8, .inl (fun _ => 0))), ((r 11), .inl ((kf 11), 8, .inl (fun _ => 0))), ((r 4), .inl ((kf 4), 24, .inl (fun _ => 0))), ((r 0), .inl ((kf 0), 6, .inl f_24)), ((r 1), .inl ((kf 1), 36, .inl f_27)), ((r 2), .inl ((kf 2), 24, .inl f_30)), ((r 3), .inl ((kf 3), 24, .inl f_33)), ((r 5), .inl ((kf 5), 24, .inl f_36)), ((r 6), .inl ((kf 6), 24, .inl f_39)), ((r 7), .inl ((kf 7), 24, .inl f_42)), ((r 8), .inl ((kf 8), 8, .inl f_45)), (h0, .inr (12, fsMk r (nI 188) 1)), ((r 12), .inl ((kf 12), 300, .inl f_47)), ((r 9), .inl ((kf 9), 8, .inl f_48))] H := hP
  have hD : va_D A [((r 10), .inl ((kf 10), 8, .inl (fun _ => 0))), ((r 11), .inl ((kf 11), 8, .inl (fun _ => 0))), ((r 4), .inl ((kf 4), 24, .inl (fun _ => 0))), ((r 0), .inl ((kf 0), 6, .inl f_24)), ((r 1), .inl ((kf 1), 36, .inl f_27)), ((r 2), .inl ((kf 2), 24, .inl f_30)), ((r 3), .inl ((kf 3), 24, .inl f_33)), ((r 5), .inl ((kf 5), 24, .inl f_36)), ((r 6), .inl ((kf 6), 24, .inl f_39)), ((r 7), .inl ((kf 7), 24, .inl f_42)), ((r 8), .inl ((kf 8), 8, .inl f_45)), (h0, .inr (12, fsMk r (nI 188) 1)), ((r 12), .inl ((kf 12), 300, .inl f_47)), ((r 9), .inl ((kf 9), 8, .inl f_48))] := hD
  refine lv_aload_n hx hb dX12_movesAll_219 rfl (lv_at hl 0 rfl) ?_
  refine lv_aload_n hx hb dX12_movesAll_220 rfl (lv_at hl 0 rfl) ?_
  refine va_get (D := (dC, dI)) (ci := 12) (v := .ref (r 10)) (C := RX12) (T := TX12) (N := 57) hx hb hts (fun w h => List.mem_cons_of_mem _ (jnGB_X12 w h)) hown hK hP 11 rfl rfl 20 (by decide) (hts _ (List.mem_cons_of_mem _ mGB_49)) (fun _ h9 => h9) rfl dX12_movesAll_221 ?_
  have hPc := hP.sub (ws' := [(h0, .inr (12, fsMk r (nI 188) 1)), ((r 12), .inl ((kf 12), 300, .inl f_47)), ((r 10), .inl ((kf 10), 8, .inl (fun _ => 0)))]) [11, 12, 0] rfl
  have hDc := hD.sub (ws' := [(h0, .inr (12, fsMk r (nI 188) 1)), ((r 12), .inl ((kf 12), 300, .inl f_47)), ((r 10), .inl ((kf 10), 8, .inl (fun _ => 0)))]) [11, 12, 0] (by decide) rfl
  have hKc := hK.sub (tys' := [((kf 12), .int), ((kf 10), .int)]) [12, 9] rfl
  have hFc := va_free (wc := [(h0, .inr (12, fsMk r (nI 188) 1)), ((r 12), .inl ((kf 12), 300, .inl f_47)), ((r 10), .inl ((kf 10), 8, .inl (fun _ => 0)))]) hD hS hA [11, 12, 0] rfl
  refine va_callv (va_runV (As := [.ref (r 10)]) (rest := []) ⟨hx, hb, hml, hown, hts⟩ (fX12_movesRow l dC dI H.size h0 r kf (r 10) (kf 10) 8 188 f_47 (fun _ => 0) (by decide)) (cwV 1 hts (gz_gV mGB_74 mGB_75 mGB_76 mGB_5 mGB_73 goodGB) rfl rfl rfl (by decide +kernel) ⟨Nat.le_of_ble_eq_true rfl, Nat.le_of_ble_eq_true rfl⟩) ⟨fun a U g mk q => by obtain ⟨q0, q1, qP, qK, qD⟩ := q; exact ⟨q0, q1, qP, va_K.moved (u := U) (U := U.calling g mk a) (Vm.Alike.refl U.vm) qK, qD⟩, va_recv hKc hPc (ci := 12) (q0 := 0) rfl rfl, fun U hU hW => ⟨rfl, by rw [hU], by rw [hU]; exact hPc, va_K.moved hW.alike hKc, hDc.weaken (fun _ _ _ _ => trivial)⟩⟩ rfl rfl hl.1 rfl (lv_room (Nat.le_of_ble_eq_true rfl)) dX12_movesAll_224 ⟨Nat.le_of_ble_eq_true rfl, Nat.le_of_ble_eq_true rfl⟩) hS (fun q _ h => hFc q h) hFc (fun  u t H1 locs ht hvm hw hB hz1 hk1 hS => ?_)
  obtain ⟨f_50, f_51, hP1, hK1, hD1⟩ := hB
  rw [ht] at hP1
  have hK1 := va_K.moved hvm.symm hK1
  obtain ⟨hP, hD⟩ := va_join (wr := [((r 11), .inl ((kf 11), 8, .inl (fun _ => 0))), ((r 4), .inl ((kf 4), 24, .inl (fun _ => 0))), ((r 0), .inl ((kf 0), 6, .inl f_24)), ((r 1), .inl ((kf 1), 36, .inl f_27)), ((r 2), .inl ((kf 2), 24, .inl f_30)), ((r 3), .inl ((kf 3), 24, .inl f_33)), ((r 5), .inl ((kf 5), 24, .inl f_36)), ((r 6), .inl ((kf 6), 24, .inl f_39)), ((r 7), .inl ((kf 7), 24, .inl f_42)), ((r 8), .inl ((kf 8), 8, .inl f_45)), ((r 9), .inl ((kf 9), 8, .inl f_48))]) (w1 := [(h0, .inr (12, fsMk r (nI (188 + 8)) 1)), ((r 12), .inl ((kf 12), 300, .inl f_50)), ((r 10), .inl ((kf 10), 8, .inl f_51))]) hP hD [11, 12, 0] [1, 2, 3, 4, 5, 6, 7, 8, 9, 10, 13] rfl rfl (by decide) (by decide) hk1 hFc hP1 hD1
  generalize H1 = H at hP hS ⊢
  have hP : va_P (dC, dI) vwCl [((r 11), .inl ((kf 11), 8, .inl (fun _ => 0))), ((r 4), .inl ((kf 4), 24, .inl (fun _ => 0))), ((r 0), .inl ((kf 0), 6, .inl f_24)), ((r 1), .inl ((kf 1), 36, .inl f_27)), ((r 2), .inl ((kf 2), 24, .inl f_30)), ((r 3), .inl ((kf 3), 24, .inl f_33)), ((r 5), .inl ((kf 5), 24, .inl f_36)), ((r 6), .inl ((kf 6), 24, .inl f_39)), ((r 7), .inl ((kf 7), 24, .inl f_42)), ((r 8), .inl ((kf 8), 8, .inl f_45)), ((r 9), .inl ((kf 9), 8, .inl f_48)), (h0, .inr (12, fsMk r (nI (188 + 8)) 1)), ((r 12), .inl ((kf 12), 300, .inl f_50)), ((r 10), .inl ((kf 10), 8, .inl f_51))] H := hP
  have hD : va_D A [((r 11), .inl ((kf 11), 8, .inl (fun _ => 0))), ((r 4), .inl ((kf 4), 24, .inl (fun _ => 0))), ((r 0), .inl ((kf 0), 6, .inl f_24)), ((r 1), .inl ((kf 1), 36, .inl f_27)), ((r 2), .inl ((kf 2), 24, .inl f_30)), ((r 3), .inl ((kf 3), 24, .inl f_33)), ((r 5), .inl ((kf 5), 24, .inl f_36)), ((r 6), .inl ((kf 6), 24, .inl f_39)), ((r 7), .inl ((kf 7), 24, .inl f_42)), ((r 8), .inl ((kf 8), 8, .inl f_45)), ((r 9), .inl ((kf 9), 8, .inl f_48)), (h0, .inr (12, fsMk r (nI (188 + 8)) 1)), ((r 12), .inl ((kf 12), 300, .inl f_50)), ((r 10), .inl ((kf 10), 8, .inl f_51))] := hD
  have hP : va_P (dC, dI) vwCl [((r 11), .inl ((kf 11), 8, .inl (fun _ => 0))), ((r 4), .inl ((kf 4), 24, .inl (fun _ => 0))), ((r 0), .inl ((kf 0), 6, .inl f_24)), ((r 1), .inl ((kf 1), 36, .inl f_27)), ((r 2), .inl ((kf 2), 24, .inl f_30)), ((r 3), .inl ((kf 3), 24, .inl f_33)), ((r 5), .inl ((kf 5), 24, .inl f_36)), ((r 6), .inl ((kf 6), 24, .inl f_39)), ((r 7), .inl ((kf 7), 24, .inl f_42)), ((r 8), .inl ((kf 8), 8, .inl f_45)), ((r 9), .inl ((kf 9), 8, .inl f_48)), (h0, .inr (12, fsMk r (nI 196) 1)), ((r 12), .inl ((kf 12), 300, .inl f_50)), ((r 10), .inl ((kf 10), 8, .inl f_51))] H := hP
  have hD : va_D A [((r 11), .inl ((kf 11), 8, .inl (fun _ => 0))), ((r 4), .inl ((kf 4), 24, .inl (fun _ => 0))), ((r 0), .inl ((kf 0), 6, .inl f_24)), ((r 1), .inl ((kf 1), 36, .inl f_27)), ((r 2), .inl ((kf 2), 24, .inl f_30)), ((r 3), .inl ((kf 3), 24, .inl f_33)), ((r 5), .inl ((kf 5), 24, .inl f_36)), ((r 6), .inl ((kf 6), 24, .inl f_39)), ((r 7), .inl ((kf 7), 24, .inl f_42)), ((r 8), .inl ((kf 8), 8, .inl f_45)), ((r 9), .inl ((kf 9), 8, .inl f_48)), (h0, .inr (12, fsMk r (nI 196) 1)), ((r 12), .inl ((kf 12), 300, .inl f_50)), ((r 10), .inl ((kf 10), 8, .inl f_51))] := hD
  refine lv_aload_n hx hb dX12_movesAll_227 rfl (lv_at hl 0 rfl) ?_
  refine lv_aload_n hx hb dX12_movesAll_228 rfl (lv_at hl 0 rfl) ?_
  refine va_get (D := (dC, dI)) (ci := 12) (v := .ref (r 11)) (C := RX12) (T := TX12) (N := 57) hx hb hts (fun w h => List.mem_cons_of_mem _ (jnGB_X12 w h)) hown hK hP 11 rfl rfl 21 (by decide) (hts _ (List.mem_cons_of_mem _ mGB_50)) (fun _ h9 => h9) rfl dX12_movesAll_229 ?_
  have hPc := hP.sub (ws' := [(h0, .inr (12, fsMk r (nI 196) 1)), ((r 12), .inl ((kf 12), 300, .inl f_50)), ((r 11), .inl ((kf 11), 8, .inl (fun _ => 0)))]) [11, 12, 0] rfl
  have hDc := hD.sub (ws' := [(h0, .inr (12, fsMk r (nI 196) 1)), ((r 12), .inl ((kf 12), 300, .inl f_50)), ((r 11), .inl ((kf 11), 8, .inl (fun _ => 0)))]) [11, 12, 0] (by decide) rfl
  have hKc := hK.sub (tys' := [((kf 12), .int), ((kf 11), .int)]) [12, 10] rfl
  have hFc := va_free (wc := [(h0, .inr (12, fsMk r (nI 196) 1)), ((r 12), .inl ((kf 12), 300, .inl f_50)), ((r 11), .inl ((kf 11), 8, .inl (fun _ => 0)))]) hD hS hA [11, 12, 0] rfl
  refine va_callv (va_runV (As := [.ref (r 11)]) (rest := []) ⟨hx, hb, hml, hown, hts⟩ (fX12_movesRow l dC dI H.size h0 r kf (r 11) (kf 11) 8 196 f_50 (fun _ => 0) (by decide)) (cwV 1 hts (gz_gV mGB_74 mGB_75 mGB_76 mGB_5 mGB_73 goodGB) rfl rfl rfl (by decide +kernel) ⟨Nat.le_of_ble_eq_true rfl, Nat.le_of_ble_eq_true rfl⟩) ⟨fun a U g mk q => by obtain ⟨q0, q1, qP, qK, qD⟩ := q; exact ⟨q0, q1, qP, va_K.moved (u := U) (U := U.calling g mk a) (Vm.Alike.refl U.vm) qK, qD⟩, va_recv hKc hPc (ci := 12) (q0 := 0) rfl rfl, fun U hU hW => ⟨rfl, by rw [hU], by rw [hU]; exact hPc, va_K.moved hW.alike hKc, hDc.weaken (fun _ _ _ _ => trivial)⟩⟩ rfl rfl hl.1 rfl (lv_room (Nat.le_of_ble_eq_true rfl)) dX12_movesAll_232 ⟨Nat.le_of_ble_eq_true rfl, Nat.le_of_ble_eq_true rfl⟩) hS (fun q _ h => hFc q h) hFc (fun  u t H1 locs ht hvm hw hB hz1 hk1 hS => ?_)
  obtain ⟨f_53, f_54, hP1, hK1, hD1⟩ := hB
  rw [ht] at hP1
  have hK1 := va_K.moved hvm.symm hK1
  obtain ⟨hP, hD⟩ := va_join (wr := [((r 4), .inl ((kf 4), 24, .inl (fun _ => 0))), ((r 0), .inl ((kf 0), 6, .inl f_24)), ((r 1), .inl ((kf 1), 36, .inl f_27)), ((r 2), .inl ((kf 2), 24, .inl f_30)), ((r 3), .inl ((kf 3), 24, .inl f_33)), ((r 5), .inl ((kf 5), 24, .inl f_36)), ((r 6), .inl ((kf 6), 24, .inl f_39)), ((r 7), .inl ((kf 7), 24, .inl f_42)), ((r 8), .inl ((kf 8), 8, .inl f_45)), ((r 9), .inl ((kf 9), 8, .inl f_48)), ((r 10), .inl ((kf 10), 8, .inl f_51))]) (w1 := [(h0, .inr (12, fsMk r (nI (196 + 8)) 1)), ((r 12), .inl ((kf 12), 300, .inl f_53)), ((r 11), .inl ((kf 11), 8, .inl f_54))]) hP hD [11, 12, 0] [1, 2, 3, 4, 5, 6, 7, 8, 9, 10, 13] rfl rfl (by decide) (by decide) hk1 hFc hP1 hD1
  generalize H1 = H at hP hS ⊢
  have hP : va_P (dC, dI) vwCl [((r 4), .inl ((kf 4), 24, .inl (fun _ => 0))), ((r 0), .inl ((kf 0), 6, .inl f_24)), ((r 1), .inl ((kf 1), 36, .inl f_27)), ((r 2), .inl ((kf 2), 24, .inl f_30)), ((r 3), .inl ((kf 3), 24, .inl f_33)), ((r 5), .inl ((kf 5), 24, .inl f_36)), ((r 6), .inl ((kf 6), 24, .inl f_39)), ((r 7), .inl ((kf 7), 24, .inl f_42)), ((r 8), .inl ((kf 8), 8, .inl f_45)), ((r 9), .inl ((kf 9), 8, .inl f_48)), ((r 10), .inl ((kf 10), 8, .inl f_51)), (h0, .inr (12, fsMk r (nI (196 + 8)) 1)), ((r 12), .inl ((kf 12), 300, .inl f_53)), ((r 11), .inl ((kf 11), 8, .inl f_54))] H := hP
  have hD : va_D A [((r 4), .inl ((kf 4), 24, .inl (fun _ => 0))), ((r 0), .inl ((kf 0), 6, .inl f_24)), ((r 1), .inl ((kf 1), 36, .inl f_27)), ((r 2), .inl ((kf 2), 24, .inl f_30)), ((r 3), .inl ((kf 3), 24, .inl f_33)), ((r 5), .inl ((kf 5), 24, .inl f_36)), ((r 6), .inl ((kf 6), 24, .inl f_39)), ((r 7), .inl ((kf 7), 24, .inl f_42)), ((r 8), .inl ((kf 8), 8, .inl f_45)), ((r 9), .inl ((kf 9), 8, .inl f_48)), ((r 10), .inl ((kf 10), 8, .inl f_51)), (h0, .inr (12, fsMk r (nI (196 + 8)) 1)), ((r 12), .inl ((kf 12), 300, .inl f_53)), ((r 11), .inl ((kf 11), 8, .inl f_54))] := hD
  have hP : va_P (dC, dI) vwCl [((r 4), .inl ((kf 4), 24, .inl (fun _ => 0))), ((r 0), .inl ((kf 0), 6, .inl f_24)), ((r 1), .inl ((kf 1), 36, .inl f_27)), ((r 2), .inl ((kf 2), 24, .inl f_30)), ((r 3), .inl ((kf 3), 24, .inl f_33)), ((r 5), .inl ((kf 5), 24, .inl f_36)), ((r 6), .inl ((kf 6), 24, .inl f_39)), ((r 7), .inl ((kf 7), 24, .inl f_42)), ((r 8), .inl ((kf 8), 8, .inl f_45)), ((r 9), .inl ((kf 9), 8, .inl f_48)), ((r 10), .inl ((kf 10), 8, .inl f_51)), (h0, .inr (12, fsMk r (nI 204) 1)), ((r 12), .inl ((kf 12), 300, .inl f_53)), ((r 11), .inl ((kf 11), 8, .inl f_54))] H := hP
  have hD : va_D A [((r 4), .inl ((kf 4), 24, .inl (fun _ => 0))), ((r 0), .inl ((kf 0), 6, .inl f_24)), ((r 1), .inl ((kf 1), 36, .inl f_27)), ((r 2), .inl ((kf 2), 24, .inl f_30)), ((r 3), .inl ((kf 3), 24, .inl f_33)), ((r 5), .inl ((kf 5), 24, .inl f_36)), ((r 6), .inl ((kf 6), 24, .inl f_39)), ((r 7), .inl ((kf 7), 24, .inl f_42)), ((r 8), .inl ((kf 8), 8, .inl f_45)), ((r 9), .inl ((kf 9), 8, .inl f_48)), ((r 10), .inl ((kf 10), 8, .inl f_51)), (h0, .inr (12, fsMk r (nI 204) 1)), ((r 12), .inl ((kf 12), 300, .inl f_53)), ((r 11), .inl ((kf 11), 8, .inl f_54))] := hD
  refine lv_iconst (v := 0) hx hb dX12_movesAll_235 (by decide) ?_
  refine lv_istore_n (lv' := [(2, .int 0), (0, .ref h0), (1, .int 1)]) hx hb dX12_movesAll_236 rfl hl (by decide) rfl (fun ls hl => ?_)
  refine lv_iload_n hx hb dX12_movesAll_237 rfl (lv_at hl 0 rfl) ?_
  refine lv_bipush (v := 24) hx hb dX12_movesAll_238 (by decide) ?_
  refine lv_icmp_ge (tgt := 282) hx hb dX12_movesAll_240 (by decide) (fun c_56 => absurd c_56 (by decide)) (fun c_56 => ?_)
  refine lv_aload_n hx hb dX12_movesAll_243 rfl (lv_at hl 1 rfl) ?_
  refine va_get (D := (dC, dI)) (ci := 12) (v := .ref (r 4)) (C := RX12) (T := TX12) (N := 57) hx hb hts (fun w h => List.mem_cons_of_mem _ (jnGB_X12 w h)) hown hK hP 11 rfl rfl 13 (by decide) (hts _ (List.mem_cons_of_mem _ mGB_43)) (fun _ h9 => h9) rfl dX12_movesAll_244 ?_
  refine lv_iload_n hx hb dX12_movesAll_247 rfl (lv_at hl 0 rfl) ?_
  refine lv_aload_n hx hb dX12_movesAll_248 rfl (lv_at hl 1 rfl) ?_
  refine lv_aload_n hx hb dX12_movesAll_249 rfl (lv_at hl 1 rfl) ?_
  refine va_get (D := (dC, dI)) (ci := 12) (v := .ref (r 4)) (C := RX12) (T := TX12) (N := 57) hx hb hts (fun w h => List.mem_cons_of_mem _ (jnGB_X12 w h)) hown hK hP 11 rfl rfl 13 (by decide) (hts _ (List.mem_cons_of_mem _ mGB_43)) (fun _ h9 => h9) rfl dX12_movesAll_250 ?_
  refine lv_iload_n hx hb dX12_movesAll_253 rfl (lv_at hl 0 rfl) ?_
  refine va_zald hx hb hK hP 0 11 rfl rfl (by unfold vp_in; decide) dX12_movesAll_254 ?_
  refine gz_topi (y := 0) rfl ?_
  refine lv_if_eq (tgt := 262) hx hb dX12_movesAll_255 (by decide) (fun c_57 => ?_) (fun c_57 => absurd (by decide) c_57)
  refine lv_iconst (v := 0) hx hb dX12_movesAll_262 (by decide) ?_
  have hP : va_P (dC, dI) vwCl [((r 4), .inl ((kf 4), 24, .inl (fun _ => 0))), ((r 0), .inl ((kf 0), 6, .inl f_24)), ((r 1), .inl ((kf 1), 36, .inl f_27)), ((r 2), .inl ((kf 2), 24, .inl f_30)), ((r 3), .inl ((kf 3), 24, .inl f_33)), ((r 5), .inl ((kf 5), 24, .inl f_36)), ((r 6), .inl ((kf 6), 24, .inl f_39)), ((r 7), .inl ((kf 7), 24, .inl f_42)), ((r 8), .inl ((kf 8), 8, .inl f_45)), ((r 9), .inl ((kf 9), 8, .inl f_48)), ((r 10), .inl ((kf 10), 8, .inl f_51)), (h0, .inr (12, fsMk r (nI 204) 1)), ((r 12), .inl ((kf 12), 300, .inl f_53)), ((r 11), .inl ((kf 11), 8, .inl f_54))] H := hP
  have hD : va_D A [((r 4), .inl ((kf 4), 24, .inl (fun _ => 0))), ((r 0), .inl ((kf 0), 6, .inl f_24)), ((r 1), .inl ((kf 1), 36, .inl f_27)), ((r 2), .inl ((kf 2), 24, .inl f_30)), ((r 3), .inl ((kf 3), 24, .inl f_33)), ((r 5), .inl ((kf 5), 24, .inl f_36)), ((r 6), .inl ((kf 6), 24, .inl f_39)), ((r 7), .inl ((kf 7), 24, .inl f_42)), ((r 8), .inl ((kf 8), 8, .inl f_45)), ((r 9), .inl ((kf 9), 8, .inl f_48)), ((r 10), .inl ((kf 10), 8, .inl f_51)), (h0, .inr (12, fsMk r (nI 204) 1)), ((r 12), .inl ((kf 12), 300, .inl f_53)), ((r 11), .inl ((kf 11), 8, .inl f_54))] := hD
  have hPc := hP.sub (ws' := [(h0, .inr (12, fsMk r (nI 204) 1)), ((r 12), .inl ((kf 12), 300, .inl f_53))]) [11, 12] rfl
  have hDc := hD.sub (ws' := [(h0, .inr (12, fsMk r (nI 204) 1)), ((r 12), .inl ((kf 12), 300, .inl f_53))]) [11, 12] (by decide) rfl
  have hKc := hK.sub (tys' := [((kf 12), .int)]) [12] rfl
  have hFc := va_free (wc := [(h0, .inr (12, fsMk r (nI 204) 1)), ((r 12), .inl ((kf 12), 300, .inl f_53))]) hD hS hA [11, 12] rfl
  refine va_calli (va_runV (As := [.int 0]) (rest := [.int 0, .ref (r 4)]) ⟨hx, hb, hml, hown, hts⟩ (fX12_moves l dC dI H.size h0 r kf 204 f_53 0 (by decide)) (cwV 1 hts (gz_gV mGB_70 mGB_71 mGB_72 mGB_5 mGB_69 goodGB) rfl rfl rfl (by decide +kernel) ⟨Nat.le_of_ble_eq_true rfl, Nat.le_of_ble_eq_true rfl⟩) ⟨fun a U g mk q => by obtain ⟨q0, q1, qP, qK, qD⟩ := q; exact ⟨q0, q1, qP, va_K.moved (u := U) (U := U.calling g mk a) (Vm.Alike.refl U.vm) qK, qD⟩, va_recv hKc hPc (ci := 12) (q0 := 0) rfl rfl, fun U hU hW => ⟨rfl, by rw [hU], by rw [hU]; exact hPc, va_K.moved hW.alike hKc, hDc.weaken (fun _ _ _ _ => trivial)⟩⟩ rfl rfl hl.1 rfl (lv_room (Nat.le_of_ble_eq_true rfl)) dX12_movesAll_263 ⟨Nat.le_of_ble_eq_true rfl, Nat.le_of_ble_eq_true rfl⟩) hS (fun q _ h => hFc q h) hFc (fun r_59 u t H1 locs ht hvm hw hB hz1 hk1 hS => ?_)
  obtain ⟨f_58, hP1, hK1, hD1⟩ := hB
  rw [ht] at hP1
  have hK1 := va_K.moved hvm.symm hK1
  obtain ⟨hP, hD⟩ := va_join (wr := [((r 4), .inl ((kf 4), 24, .inl (fun _ => 0))), ((r 0), .inl ((kf 0), 6, .inl f_24)), ((r 1), .inl ((kf 1), 36, .inl f_27)), ((r 2), .inl ((kf 2), 24, .inl f_30)), ((r 3), .inl ((kf 3), 24, .inl f_33)), ((r 5), .inl ((kf 5), 24, .inl f_36)), ((r 6), .inl ((kf 6), 24, .inl f_39)), ((r 7), .inl ((kf 7), 24, .inl f_42)), ((r 8), .inl ((kf 8), 8, .inl f_45)), ((r 9), .inl ((kf 9), 8, .inl f_48)), ((r 10), .inl ((kf 10), 8, .inl f_51)), ((r 11), .inl ((kf 11), 8, .inl f_54))]) (w1 := [(h0, .inr (12, fsMk r (nI (204 + 1)) 1)), ((r 12), .inl ((kf 12), 300, .inl f_58))]) hP hD [11, 12] [0, 1, 2, 3, 4, 5, 6, 7, 8, 9, 10, 13] rfl rfl (by decide) (by decide) hk1 hFc hP1 hD1
  generalize H1 = H at hP hS ⊢
  have hP : va_P (dC, dI) vwCl [((r 4), .inl ((kf 4), 24, .inl (fun _ => 0))), ((r 0), .inl ((kf 0), 6, .inl f_24)), ((r 1), .inl ((kf 1), 36, .inl f_27)), ((r 2), .inl ((kf 2), 24, .inl f_30)), ((r 3), .inl ((kf 3), 24, .inl f_33)), ((r 5), .inl ((kf 5), 24, .inl f_36)), ((r 6), .inl ((kf 6), 24, .inl f_39)), ((r 7), .inl ((kf 7), 24, .inl f_42)), ((r 8), .inl ((kf 8), 8, .inl f_45)), ((r 9), .inl ((kf 9), 8, .inl f_48)), ((r 10), .inl ((kf 10), 8, .inl f_51)), ((r 11), .inl ((kf 11), 8, .inl f_54)), (h0, .inr (12, fsMk r (nI (204 + 1)) 1)), ((r 12), .inl ((kf 12), 300, .inl f_58))] H := hP
  have hD : va_D A [((r 4), .inl ((kf 4), 24, .inl (fun _ => 0))), ((r 0), .inl ((kf 0), 6, .inl f_24)), ((r 1), .inl ((kf 1), 36, .inl f_27)), ((r 2), .inl ((kf 2), 24, .inl f_30)), ((r 3), .inl ((kf 3), 24, .inl f_33)), ((r 5), .inl ((kf 5), 24, .inl f_36)), ((r 6), .inl ((kf 6), 24, .inl f_39)), ((r 7), .inl ((kf 7), 24, .inl f_42)), ((r 8), .inl ((kf 8), 8, .inl f_45)), ((r 9), .inl ((kf 9), 8, .inl f_48)), ((r 10), .inl ((kf 10), 8, .inl f_51)), ((r 11), .inl ((kf 11), 8, .inl f_54)), (h0, .inr (12, fsMk r (nI (204 + 1)) 1)), ((r 12), .inl ((kf 12), 300, .inl f_58))] := hD
  subst hw
  have hP : va_P (dC, dI) vwCl [((r 4), .inl ((kf 4), 24, .inl (fun _ => 0))), ((r 0), .inl ((kf 0), 6, .inl f_24)), ((r 1), .inl ((kf 1), 36, .inl f_27)), ((r 2), .inl ((kf 2), 24, .inl f_30)), ((r 3), .inl ((kf 3), 24, .inl f_33)), ((r 5), .inl ((kf 5), 24, .inl f_36)), ((r 6), .inl ((kf 6), 24, .inl f_39)), ((r 7), .inl ((kf 7), 24, .inl f_42)), ((r 8), .inl ((kf 8), 8, .inl f_45)), ((r 9), .inl ((kf 9), 8, .inl f_48)), ((r 10), .inl ((kf 10), 8, .inl f_51)), ((r 11), .inl ((kf 11), 8, .inl f_54)), (h0, .inr (12, fsMk r (nI 205) 1)), ((r 12), .inl ((kf 12), 300, .inl f_58))] H := hP
  have hD : va_D A [((r 4), .inl ((kf 4), 24, .inl (fun _ => 0))), ((r 0), .inl ((kf 0), 6, .inl f_24)), ((r 1), .inl ((kf 1), 36, .inl f_27)), ((r 2), .inl ((kf 2), 24, .inl f_30)), ((r 3), .inl ((kf 3), 24, .inl f_33)), ((r 5), .inl ((kf 5), 24, .inl f_36)), ((r 6), .inl ((kf 6), 24, .inl f_39)), ((r 7), .inl ((kf 7), 24, .inl f_42)), ((r 8), .inl ((kf 8), 8, .inl f_45)), ((r 9), .inl ((kf 9), 8, .inl f_48)), ((r 10), .inl ((kf 10), 8, .inl f_51)), ((r 11), .inl ((kf 11), 8, .inl f_54)), (h0, .inr (12, fsMk r (nI 205) 1)), ((r 12), .inl ((kf 12), 300, .inl f_58))] := hD
  refine lv_iconst (v := 1) hx hb dX12_movesAll_266 (by decide) ?_
  refine lv_icmp_ne (tgt := 274) hx hb dX12_movesAll_267 (by decide) (fun c_60 => ?_) (fun c_60 => absurd c_60 (by decide))
  refine lv_iconst (v := 0) hx hb dX12_movesAll_274 (by decide) ?_
  refine va_zast hx hb hK hP hD hS 0 11 rfl rfl (by unfold vp_in; decide) dX12_movesAll_275 (fun H locs hP hD hS => ?_)
  have hP : va_P (dC, dI) vwCl [((r 4), .inl ((kf 4), 24, .inl (upd (fun _ => 0) (0 : Int32).toNatClampNeg (vp_nar .boolean 0)))), ((r 0), .inl ((kf 0), 6, .inl f_24)), ((r 1), .inl ((kf 1), 36, .inl f_27)), ((r 2), .inl ((kf 2), 24, .inl f_30)), ((r 3), .inl ((kf 3), 24, .inl f_33)), ((r 5), .inl ((kf 5), 24, .inl f_36)), ((r 6), .inl ((kf 6), 24, .inl f_39)), ((r 7), .inl ((kf 7), 24, .inl f_42)), ((r 8), .inl ((kf 8), 8, .inl f_45)), ((r 9), .inl ((kf 9), 8, .inl f_48)), ((r 10), .inl ((kf 10), 8, .inl f_51)), ((r 11), .inl ((kf 11), 8, .inl f_54)), (h0, .inr (12, fsMk r (nI 205) 1)), ((r 12), .inl ((kf 12), 300, .inl f_58))] H := hP
  have hD : va_D A [((r 4), .inl ((kf 4), 24, .inl (upd (fun _ => 0) (0 : Int32).toNatClampNeg (vp_nar .boolean 0)))), ((r 0), .inl ((kf 0), 6, .inl f_24)), ((r 1), .inl ((kf 1), 36, .inl f_27)), ((r 2), .inl ((kf 2), 24, .inl f_30)), ((r 3), .inl ((kf 3), 24, .inl f_33)), ((r 5), .inl ((kf 5), 24, .inl f_36)), ((r 6), .inl ((kf 6), 24, .inl f_39)), ((r 7), .inl ((kf 7), 24, .inl f_42)), ((r 8), .inl ((kf 8), 8, .inl f_45)), ((r 9), .inl ((kf 9), 8, .inl f_48)), ((r 10), .inl ((kf 10), 8, .inl f_51)), ((r 11), .inl ((kf 11), 8, .inl f_54)), (h0, .inr (12, fsMk r (nI 205) 1)), ((r 12), .inl ((kf 12), 300, .inl f_58))] := hD
  rw [gz_upd0z] at hP hD
  refine lv_iinc (v := 1) (lv' := [(2, .int 1), (0, .ref h0), (1, .int 1)]) hx hb dX12_movesAll_276 hl (k := 0) rfl (by decide) (by decide) rfl (fun ls hl => ?_)
  refine lv_goto (tgt := 237) hx hb dX12_movesAll_279 (by decide) ?_
  refine lv_iload_n hx hb dX12_movesAll_237 rfl (lv_at hl 0 rfl) ?_
  refine lv_bipush (v := 24) hx hb dX12_movesAll_238 (by decide) ?_
  refine lv_icmp_ge (tgt := 282) hx hb dX12_movesAll_240 (by decide) (fun c_62 => absurd c_62 (by decide)) (fun c_62 => ?_)
  refine lv_aload_n hx hb dX12_movesAll_243 rfl (lv_at hl 1 rfl) ?_
  refine va_get (D := (dC, dI)) (ci := 12) (v := .ref (r 4)) (C := RX12) (T := TX12) (N := 57) hx hb hts (fun w h => List.mem_cons_of_mem _ (jnGB_X12 w h)) hown hK hP 12 rfl rfl 13 (by decide) (hts _ (List.mem_cons_of_mem _ mGB_43)) (fun _ h9 => h9) rfl dX12_movesAll_244 ?_
  refine lv_iload_n hx hb dX12_movesAll_247 rfl (lv_at hl 0 rfl) ?_
  refine lv_aload_n hx hb dX12_movesAll_248 rfl (lv_at hl 1 rfl) ?_
  refine lv_aload_n hx hb dX12_movesAll_249 rfl (lv_at hl 1 rfl) ?_
  refine va_get (D := (dC, dI)) (ci := 12) (v := .ref (r 4)) (C := RX12) (T := TX12) (N := 57) hx hb hts (fun w h => List.mem_cons_of_mem _ (jnGB_X12 w h)) hown hK hP 12 rfl rfl 13 (by decide) (hts _ (List.mem_cons_of_mem _ mGB_43)) (fun _ h9 => h9) rfl dX12_movesAll_250 ?_
  refine lv_iload_n hx hb dX12_movesAll_253 rfl (lv_at hl 0 rfl) ?_
  refine va_zald hx hb hK hP 0 11 rfl rfl (by unfold vp_in; decide) dX12_movesAll_254 ?_
  refine gz_topi (y := 0) rfl ?_
  refine lv_if_eq (tgt := 262) hx hb dX12_movesAll_255 (by decide) (fun c_63 => ?_) (fun c_63 => absurd (by decide) c_63)
  refine lv_iconst (v := 0) hx hb dX12_movesAll_262 (by decide) ?_
  have hP : va_P (dC, dI) vwCl [((r 4), .inl ((kf 4), 24, .inl (fun _ => 0))), ((r 0), .inl ((kf 0), 6, .inl f_24)), ((r 1), .inl ((kf 1), 36, .inl f_27)), ((r 2), .inl ((kf 2), 24, .inl f_30)), ((r 3), .inl ((kf 3), 24, .inl f_33)), ((r 5), .inl ((kf 5), 24, .inl f_36)), ((r 6), .inl ((kf 6), 24, .inl f_39)), ((r 7), .inl ((kf 7), 24, .inl f_42)), ((r 8), .inl ((kf 8), 8, .inl f_45)), ((r 9), .inl ((kf 9), 8, .inl f_48)), ((r 10), .inl ((kf 10), 8, .inl f_51)), ((r 11), .inl ((kf 11), 8, .inl f_54)), (h0, .inr (12, fsMk r (nI 205) 1)), ((r 12), .inl ((kf 12), 300, .inl f_58))] H := hP
  have hD : va_D A [((r 4), .inl ((kf 4), 24, .inl (fun _ => 0))), ((r 0), .inl ((kf 0), 6, .inl f_24)), ((r 1), .inl ((kf 1), 36, .inl f_27)), ((r 2), .inl ((kf 2), 24, .inl f_30)), ((r 3), .inl ((kf 3), 24, .inl f_33)), ((r 5), .inl ((kf 5), 24, .inl f_36)), ((r 6), .inl ((kf 6), 24, .inl f_39)), ((r 7), .inl ((kf 7), 24, .inl f_42)), ((r 8), .inl ((kf 8), 8, .inl f_45)), ((r 9), .inl ((kf 9), 8, .inl f_48)), ((r 10), .inl ((kf 10), 8, .inl f_51)), ((r 11), .inl ((kf 11), 8, .inl f_54)), (h0, .inr (12, fsMk r (nI 205) 1)), ((r 12), .inl ((kf 12), 300, .inl f_58))] := hD
  have hPc := hP.sub (ws' := [(h0, .inr (12, fsMk r (nI 205) 1)), ((r 12), .inl ((kf 12), 300, .inl f_58))]) [12, 13] rfl
  have hDc := hD.sub (ws' := [(h0, .inr (12, fsMk r (nI 205) 1)), ((r 12), .inl ((kf 12), 300, .inl f_58))]) [12, 13] (by decide) rfl
  have hKc := hK.sub (tys' := [((kf 12), .int)]) [12] rfl
  have hFc := va_free (wc := [(h0, .inr (12, fsMk r (nI 205) 1)), ((r 12), .inl ((kf 12), 300, .inl f_58))]) hD hS hA [12, 13] rfl
  refine va_calli (va_runV (As := [.int 0]) (rest := [.int 1, .ref (r 4)]) ⟨hx, hb, hml, hown, hts⟩ (fX12_moves l dC dI H.size h0 r kf 205 f_58 0 (by decide)) (cwV 1 hts (gz_gV mGB_70 mGB_71 mGB_72 mGB_5 mGB_69 goodGB) rfl rfl rfl (by decide +kernel) ⟨Nat.le_of_ble_eq_true rfl, Nat.le_of_ble_eq_true rfl⟩) ⟨fun a U g mk q => by obtain ⟨q0, q1, qP, qK, qD⟩ := q; exact ⟨q0, q1, qP, va_K.moved (u := U) (U := U.calling g mk a) (Vm.Alike.refl U.vm) qK, qD⟩, va_recv hKc hPc (ci := 12) (q0 := 0) rfl rfl, fun U hU hW => ⟨rfl, by rw [hU], by rw [hU]; exact hPc, va_K.moved hW.alike hKc, hDc.weaken (fun _ _ _ _ => trivial)⟩⟩ rfl rfl hl.1 rfl (lv_room (Nat.le_of_ble_eq_true rfl)) dX12_movesAll_263 ⟨Nat.le_of_ble_eq_true rfl, Nat.le_of_ble_eq_true rfl⟩) hS (fun q _ h => hFc q h) hFc (fun r_65 u t H1 locs ht hvm hw hB hz1 hk1 hS => ?_)
  obtain ⟨f_64, hP1, hK1, hD1⟩ := hB
  rw [ht] at hP1
  have hK1 := va_K.moved hvm.symm hK1
  obtain ⟨hP, hD⟩ := va_join (wr := [((r 4), .inl ((kf 4), 24, .inl (fun _ => 0))), ((r 0), .inl ((kf 0), 6, .inl f_24)), ((r 1), .inl ((kf 1), 36, .inl f_27)), ((r 2), .inl ((kf 2), 24, .inl f_30)), ((r 3), .inl ((kf 3), 24, .inl f_33)), ((r 5), .inl ((kf 5), 24, .inl f_36)), ((r 6), .inl ((kf 6), 24, .inl f_39)), ((r 7), .inl ((kf 7), 24, .inl f_42)), ((r 8), .inl ((kf 8), 8, .inl f_45)), ((r 9), .inl ((kf 9), 8, .inl f_48)), ((r 10), .inl ((kf 10), 8, .inl f_51)), ((r 11), .inl ((kf 11), 8, .inl f_54))]) (w1 := [(h0, .inr (12, fsMk r (nI (205 + 1)) 1)), ((r 12), .inl ((kf 12), 300, .inl f_64))]) hP hD [12, 13] [0, 1, 2, 3, 4, 5, 6, 7, 8, 9, 10, 11] rfl rfl (by decide) (by decide) hk1 hFc hP1 hD1
  generalize H1 = H at hP hS ⊢
  have hP : va_P (dC, dI) vwCl [((r 4), .inl ((kf 4), 24, .inl (fun _ => 0))), ((r 0), .inl ((kf 0), 6, .inl f_24)), ((r 1), .inl ((kf 1), 36, .inl f_27)), ((r 2), .inl ((kf 2), 24, .inl f_30)), ((r 3), .inl ((kf 3), 24, .inl f_33)), ((r 5), .inl ((kf 5), 24, .inl f_36)), ((r 6), .inl ((kf 6), 24, .inl f_39)), ((r 7), .inl ((kf 7), 24, .inl f_42)), ((r 8), .inl ((kf 8), 8, .inl f_45)), ((r 9), .inl ((kf 9), 8, .inl f_48)), ((r 10), .inl ((kf 10), 8, .inl f_51)), ((r 11), .inl ((kf 11), 8, .inl f_54)), (h0, .inr (12, fsMk r (nI (205 + 1)) 1)), ((r 12), .inl ((kf 12), 300, .inl f_64))] H := hP
  have hD : va_D A [((r 4), .inl ((kf 4), 24, .inl (fun _ => 0))), ((r 0), .inl ((kf 0), 6, .inl f_24)), ((r 1), .inl ((kf 1), 36, .inl f_27)), ((r 2), .inl ((kf 2), 24, .inl f_30)), ((r 3), .inl ((kf 3), 24, .inl f_33)), ((r 5), .inl ((kf 5), 24, .inl f_36)), ((r 6), .inl ((kf 6), 24, .inl f_39)), ((r 7), .inl ((kf 7), 24, .inl f_42)), ((r 8), .inl ((kf 8), 8, .inl f_45)), ((r 9), .inl ((kf 9), 8, .inl f_48)), ((r 10), .inl ((kf 10), 8, .inl f_51)), ((r 11), .inl ((kf 11), 8, .inl f_54)), (h0, .inr (12, fsMk r (nI (205 + 1)) 1)), ((r 12), .inl ((kf 12), 300, .inl f_64))] := hD
  subst hw
  have hP : va_P (dC, dI) vwCl [((r 4), .inl ((kf 4), 24, .inl (fun _ => 0))), ((r 0), .inl ((kf 0), 6, .inl f_24)), ((r 1), .inl ((kf 1), 36, .inl f_27)), ((r 2), .inl ((kf 2), 24, .inl f_30)), ((r 3), .inl ((kf 3), 24, .inl f_33)), ((r 5), .inl ((kf 5), 24, .inl f_36)), ((r 6), .inl ((kf 6), 24, .inl f_39)), ((r 7), .inl ((kf 7), 24, .inl f_42)), ((r 8), .inl ((kf 8), 8, .inl f_45)), ((r 9), .inl ((kf 9), 8, .inl f_48)), ((r 10), .inl ((kf 10), 8, .inl f_51)), ((r 11), .inl ((kf 11), 8, .inl f_54)), (h0, .inr (12, fsMk r (nI 206) 1)), ((r 12), .inl ((kf 12), 300, .inl f_64))] H := hP
  have hD : va_D A [((r 4), .inl ((kf 4), 24, .inl (fun _ => 0))), ((r 0), .inl ((kf 0), 6, .inl f_24)), ((r 1), .inl ((kf 1), 36, .inl f_27)), ((r 2), .inl ((kf 2), 24, .inl f_30)), ((r 3), .inl ((kf 3), 24, .inl f_33)), ((r 5), .inl ((kf 5), 24, .inl f_36)), ((r 6), .inl ((kf 6), 24, .inl f_39)), ((r 7), .inl ((kf 7), 24, .inl f_42)), ((r 8), .inl ((kf 8), 8, .inl f_45)), ((r 9), .inl ((kf 9), 8, .inl f_48)), ((r 10), .inl ((kf 10), 8, .inl f_51)), ((r 11), .inl ((kf 11), 8, .inl f_54)), (h0, .inr (12, fsMk r (nI 206) 1)), ((r 12), .inl ((kf 12), 300, .inl f_64))] := hD
  refine lv_iconst (v := 1) hx hb dX12_movesAll_266 (by decide) ?_
  refine lv_icmp_ne (tgt := 274) hx hb dX12_movesAll_267 (by decide) (fun c_66 => ?_) (fun c_66 => absurd c_66 (by decide))
  refine lv_iconst (v := 0) hx hb dX12_movesAll_274 (by decide) ?_
  refine va_zast hx hb hK hP hD hS 0 11 rfl rfl (by unfold vp_in; decide) dX12_movesAll_275 (fun H locs hP hD hS => ?_)
  have hP : va_P (dC, dI) vwCl [((r 4), .inl ((kf 4), 24, .inl (upd (fun _ => 0) (1 : Int32).toNatClampNeg (vp_nar .boolean 0)))), ((r 0), .inl ((kf 0), 6, .inl f_24)), ((r 1), .inl ((kf 1), 36, .inl f_27)), ((r 2), .inl ((kf 2), 24, .inl f_30)), ((r 3), .inl ((kf 3), 24, .inl f_33)), ((r 5), .inl ((kf 5), 24, .inl f_36)), ((r 6), .inl ((kf 6), 24, .inl f_39)), ((r 7), .inl ((kf 7), 24, .inl f_42)), ((r 8), .inl ((kf 8), 8, .inl f_45)), ((r 9), .inl ((kf 9), 8, .inl f_48)), ((r 10), .inl ((kf 10), 8, .inl f_51)), ((r 11), .inl ((kf 11), 8, .inl f_54)), (h0, .inr (12, fsMk r (nI 206) 1)), ((r 12), .inl ((kf 12), 300, .inl f_64))] H := hP
  have hD : va_D A [((r 4), .inl ((kf 4), 24, .inl (upd (fun _ => 0) (1 : Int32).toNatClampNeg (vp_nar .boolean 0)))), ((r 0), .inl ((kf 0), 6, .inl f_24)), ((r 1), .inl ((kf 1), 36, .inl f_27)), ((r 2), .inl ((kf 2), 24, .inl f_30)), ((r 3), .inl ((kf 3), 24, .inl f_33)), ((r 5), .inl ((kf 5), 24, .inl f_36)), ((r 6), .inl ((kf 6), 24, .inl f_39)), ((r 7), .inl ((kf 7), 24, .inl f_42)), ((r 8), .inl ((kf 8), 8, .inl f_45)), ((r 9), .inl ((kf 9), 8, .inl f_48)), ((r 10), .inl ((kf 10), 8, .inl f_51)), ((r 11), .inl ((kf 11), 8, .inl f_54)), (h0, .inr (12, fsMk r (nI 206) 1)), ((r 12), .inl ((kf 12), 300, .inl f_64))] := hD
  rw [gz_upd0z] at hP hD
  refine lv_iinc (v := 2) (lv' := [(2, .int 2), (0, .ref h0), (1, .int 1)]) hx hb dX12_movesAll_276 hl (k := 0) rfl (by decide) (by decide) rfl (fun ls hl => ?_)
  refine lv_goto (tgt := 237) hx hb dX12_movesAll_279 (by decide) ?_
  refine lv_iload_n hx hb dX12_movesAll_237 rfl (lv_at hl 0 rfl) ?_
  refine lv_bipush (v := 24) hx hb dX12_movesAll_238 (by decide) ?_
  refine lv_icmp_ge (tgt := 282) hx hb dX12_movesAll_240 (by decide) (fun c_68 => absurd c_68 (by decide)) (fun c_68 => ?_)
  refine lv_aload_n hx hb dX12_movesAll_243 rfl (lv_at hl 1 rfl) ?_
  refine va_get (D := (dC, dI)) (ci := 12) (v := .ref (r 4)) (C := RX12) (T := TX12) (N := 57) hx hb hts (fun w h => List.mem_cons_of_mem _ (jnGB_X12 w h)) hown hK hP 12 rfl rfl 13 (by decide) (hts _ (List.mem_cons_of_mem _ mGB_43)) (fun _ h9 => h9) rfl dX12_movesAll_244 ?_
  refine lv_iload_n hx hb dX12_movesAll_247 rfl (lv_at hl 0 rfl) ?_
  refine lv_aload_n hx hb dX12_movesAll_248 rfl (lv_at hl 1 rfl) ?_
  refine lv_aload_n hx hb dX12_movesAll_249 rfl (lv_at hl 1 rfl) ?_
  refine va_get (D := (dC, dI)) (ci := 12) (v := .ref (r 4)) (C := RX12) (T := TX12) (N := 57) hx hb hts (fun w h => List.mem_cons_of_mem _ (jnGB_X12 w h)) hown hK hP 12 rfl rfl 13 (by decide) (hts _ (List.mem_cons_of_mem _ mGB_43)) (fun _ h9 => h9) rfl dX12_movesAll_250 ?_
  refine lv_iload_n hx hb dX12_movesAll_253 rfl (lv_at hl 0 rfl) ?_
  refine va_zald hx hb hK hP 0 11 rfl rfl (by unfold vp_in; decide) dX12_movesAll_254 ?_
  refine gz_topi (y := 0) rfl ?_
  refine lv_if_eq (tgt := 262) hx hb dX12_movesAll_255 (by decide) (fun c_69 => ?_) (fun c_69 => absurd (by decide) c_69)
  refine lv_iconst (v := 0) hx hb dX12_movesAll_262 (by decide) ?_
  have hP : va_P (dC, dI) vwCl [((r 4), .inl ((kf 4), 24, .inl (fun _ => 0))), ((r 0), .inl ((kf 0), 6, .inl f_24)), ((r 1), .inl ((kf 1), 36, .inl f_27)), ((r 2), .inl ((kf 2), 24, .inl f_30)), ((r 3), .inl ((kf 3), 24, .inl f_33)), ((r 5), .inl ((kf 5), 24, .inl f_36)), ((r 6), .inl ((kf 6), 24, .inl f_39)), ((r 7), .inl ((kf 7), 24, .inl f_42)), ((r 8), .inl ((kf 8), 8, .inl f_45)), ((r 9), .inl ((kf 9), 8, .inl f_48)), ((r 10), .inl ((kf 10), 8, .inl f_51)), ((r 11), .inl ((kf 11), 8, .inl f_54)), (h0, .inr (12, fsMk r (nI 206) 1)), ((r 12), .inl ((kf 12), 300, .inl f_64))] H := hP
  have hD : va_D A [((r 4), .inl ((kf 4), 24, .inl (fun _ => 0))), ((r 0), .inl ((kf 0), 6, .inl f_24)), ((r 1), .inl ((kf 1), 36, .inl f_27)), ((r 2), .inl ((kf 2), 24, .inl f_30)), ((r 3), .inl ((kf 3), 24, .inl f_33)), ((r 5), .inl ((kf 5), 24, .inl f_36)), ((r 6), .inl ((kf 6), 24, .inl f_39)), ((r 7), .inl ((kf 7), 24, .inl f_42)), ((r 8), .inl ((kf 8), 8, .inl f_45)), ((r 9), .inl ((kf 9), 8, .inl f_48)), ((r 10), .inl ((kf 10), 8, .inl f_51)), ((r 11), .inl ((kf 11), 8, .inl f_54)), (h0, .inr (12, fsMk r (nI 206) 1)), ((r 12), .inl ((kf 12), 300, .inl f_64))] := hD
  have hPc := hP.sub (ws' := [(h0, .inr (12, fsMk r (nI 206) 1)), ((r 12), .inl ((kf 12), 300, .inl f_64))]) [12, 13] rfl
  have hDc := hD.sub (ws' := [(h0, .inr (12, fsMk r (nI 206) 1)), ((r 12), .inl ((kf 12), 300, .inl f_64))]) [12, 13] (by decide) rfl
  have hKc := hK.sub (tys' := [((kf 12), .int)]) [12] rfl
  have hFc := va_free (wc := [(h0, .inr (12, fsMk r (nI 206) 1)), ((r 12), .inl ((kf 12), 300, .inl f_64))]) hD hS hA [12, 13] rfl
  refine va_calli (va_runV (As := [.int 0]) (rest := [.int 2, .ref (r 4)]) ⟨hx, hb, hml, hown, hts⟩ (fX12_moves l dC dI H.size h0 r kf 206 f_64 0 (by decide)) (cwV 1 hts (gz_gV mGB_70 mGB_71 mGB_72 mGB_5 mGB_69 goodGB) rfl rfl rfl (by decide +kernel) ⟨Nat.le_of_ble_eq_true rfl, Nat.le_of_ble_eq_true rfl⟩) ⟨fun a U g mk q => by obtain ⟨q0, q1, qP, qK, qD⟩ := q; exact ⟨q0, q1, qP, va_K.moved (u := U) (U := U.calling g mk a) (Vm.Alike.refl U.vm) qK, qD⟩, va_recv hKc hPc (ci := 12) (q0 := 0) rfl rfl, fun U hU hW => ⟨rfl, by rw [hU], by rw [hU]; exact hPc, va_K.moved hW.alike hKc, hDc.weaken (fun _ _ _ _ => trivial)⟩⟩ rfl rfl hl.1 rfl (lv_room (Nat.le_of_ble_eq_true rfl)) dX12_movesAll_263 ⟨Nat.le_of_ble_eq_true rfl, Nat.le_of_ble_eq_true rfl⟩) hS (fun q _ h => hFc q h) hFc (fun r_71 u t H1 locs ht hvm hw hB hz1 hk1 hS => ?_)
  obtain ⟨f_70, hP1, hK1, hD1⟩ := hB
  rw [ht] at hP1
  have hK1 := va_K.moved hvm.symm hK1
  obtain ⟨hP, hD⟩ := va_join (wr := [((r 4), .inl ((kf 4), 24, .inl (fun _ => 0))), ((r 0), .inl ((kf 0), 6, .inl f_24)), ((r 1), .inl ((kf 1), 36, .inl f_27)), ((r 2), .inl ((kf 2), 24, .inl f_30)), ((r 3), .inl ((kf 3), 24, .inl f_33)), ((r 5), .inl ((kf 5), 24, .inl f_36)), ((r 6), .inl ((kf 6), 24, .inl f_39)), ((r 7), .inl ((kf 7), 24, .inl f_42)), ((r 8), .inl ((kf 8), 8, .inl f_45)), ((r 9), .inl ((kf 9), 8, .inl f_48)), ((r 10), .inl ((kf 10), 8, .inl f_51)), ((r 11), .inl ((kf 11), 8, .inl f_54))]) (w1 := [(h0, .inr (12, fsMk r (nI (206 + 1)) 1)), ((r 12), .inl ((kf 12), 300, .inl f_70))]) hP hD [12, 13] [0, 1, 2, 3, 4, 5, 6, 7, 8, 9, 10, 11] rfl rfl (by decide) (by decide) hk1 hFc hP1 hD1
  generalize H1 = H at hP hS ⊢
  have hP : va_P (dC, dI) vwCl [((r 4), .inl ((kf 4), 24, .inl (fun _ => 0))), ((r 0), .inl ((kf 0), 6, .inl f_24)), ((r 1), .inl ((kf 1), 36, .inl f_27)), ((r 2), .inl ((kf 2), 24, .inl f_30)), ((r 3), .inl ((kf 3), 24, .inl f_33)), ((r 5), .inl ((kf 5), 24, .inl f_36)), ((r 6), .inl ((kf 6), 24, .inl f_39)), ((r 7), .inl ((kf 7), 24, .inl f_42)), ((r 8), .inl ((kf 8), 8, .inl f_45)), ((r 9), .inl ((kf 9), 8, .inl f_48)), ((r 10), .inl ((kf 10), 8, .inl f_51)), ((r 11), .inl ((kf 11), 8, .inl f_54)), (h0, .inr (12, fsMk r (nI (206 + 1)) 1)), ((r 12), .inl ((kf 12), 300, .inl f_70))] H := hP
  have hD : va_D A [((r 4), .inl ((kf 4), 24, .inl (fun _ => 0))), ((r 0), .inl ((kf 0), 6, .inl f_24)), ((r 1), .inl ((kf 1), 36, .inl f_27)), ((r 2), .inl ((kf 2), 24, .inl f_30)), ((r 3), .inl ((kf 3), 24, .inl f_33)), ((r 5), .inl ((kf 5), 24, .inl f_36)), ((r 6), .inl ((kf 6), 24, .inl f_39)), ((r 7), .inl ((kf 7), 24, .inl f_42)), ((r 8), .inl ((kf 8), 8, .inl f_45)), ((r 9), .inl ((kf 9), 8, .inl f_48)), ((r 10), .inl ((kf 10), 8, .inl f_51)), ((r 11), .inl ((kf 11), 8, .inl f_54)), (h0, .inr (12, fsMk r (nI (206 + 1)) 1)), ((r 12), .inl ((kf 12), 300, .inl f_70))] := hD
  subst hw
  have hP : va_P (dC, dI) vwCl [((r 4), .inl ((kf 4), 24, .inl (fun _ => 0))), ((r 0), .inl ((kf 0), 6, .inl f_24)), ((r 1), .inl ((kf 1), 36, .inl f_27)), ((r 2), .inl ((kf 2), 24, .inl f_30)), ((r 3), .inl ((kf 3), 24, .inl f_33)), ((r 5), .inl ((kf 5), 24, .inl f_36)), ((r 6), .inl ((kf 6), 24, .inl f_39)), ((r 7), .inl ((kf 7), 24, .inl f_42)), ((r 8), .inl ((kf 8), 8, .inl f_45)), ((r 9), .inl ((kf 9), 8, .inl f_48)), ((r 10), .inl ((kf 10), 8, .inl f_51)), ((r 11), .inl ((kf 11), 8, .inl f_54)), (h0, .inr (12, fsMk r (nI 207) 1)), ((r 12), .inl ((kf 12), 300, .inl f_70))] H := hP
  have hD : va_D A [((r 4), .inl ((kf 4), 24, .inl (fun _ => 0))), ((r 0), .inl ((kf 0), 6, .inl f_24)), ((r 1), .inl ((kf 1), 36, .inl f_27)), ((r 2), .inl ((kf 2), 24, .inl f_30)), ((r 3), .inl ((kf 3), 24, .inl f_33)), ((r 5), .inl ((kf 5), 24, .inl f_36)), ((r 6), .inl ((kf 6), 24, .inl f_39)), ((r 7), .inl ((kf 7), 24, .inl f_42)), ((r 8), .inl ((kf 8), 8, .inl f_45)), ((r 9), .inl ((kf 9), 8, .inl f_48)), ((r 10), .inl ((kf 10), 8, .inl f_51)), ((r 11), .inl ((kf 11), 8, .inl f_54)), (h0, .inr (12, fsMk r (nI 207) 1)), ((r 12), .inl ((kf 12), 300, .inl f_70))] := hD
  refine lv_iconst (v := 1) hx hb dX12_movesAll_266 (by decide) ?_
  refine lv_icmp_ne (tgt := 274) hx hb dX12_movesAll_267 (by decide) (fun c_72 => ?_) (fun c_72 => absurd c_72 (by decide))
  refine lv_iconst (v := 0) hx hb dX12_movesAll_274 (by decide) ?_
  refine va_zast hx hb hK hP hD hS 0 11 rfl rfl (by unfold vp_in; decide) dX12_movesAll_275 (fun H locs hP hD hS => ?_)
  have hP : va_P (dC, dI) vwCl [((r 4), .inl ((kf 4), 24, .inl (upd (fun _ => 0) (2 : Int32).toNatClampNeg (vp_nar .boolean 0)))), ((r 0), .inl ((kf 0), 6, .inl f_24)), ((r 1), .inl ((kf 1), 36, .inl f_27)), ((r 2), .inl ((kf 2), 24, .inl f_30)), ((r 3), .inl ((kf 3), 24, .inl f_33)), ((r 5), .inl ((kf 5), 24, .inl f_36)), ((r 6), .inl ((kf 6), 24, .inl f_39)), ((r 7), .inl ((kf 7), 24, .inl f_42)), ((r 8), .inl ((kf 8), 8, .inl f_45)), ((r 9), .inl ((kf 9), 8, .inl f_48)), ((r 10), .inl ((kf 10), 8, .inl f_51)), ((r 11), .inl ((kf 11), 8, .inl f_54)), (h0, .inr (12, fsMk r (nI 207) 1)), ((r 12), .inl ((kf 12), 300, .inl f_70))] H := hP
  have hD : va_D A [((r 4), .inl ((kf 4), 24, .inl (upd (fun _ => 0) (2 : Int32).toNatClampNeg (vp_nar .boolean 0)))), ((r 0), .inl ((kf 0), 6, .inl f_24)), ((r 1), .inl ((kf 1), 36, .inl f_27)), ((r 2), .inl ((kf 2), 24, .inl f_30)), ((r 3), .inl ((kf 3), 24, .inl f_33)), ((r 5), .inl ((kf 5), 24, .inl f_36)), ((r 6), .inl ((kf 6), 24, .inl f_39)), ((r 7), .inl ((kf 7), 24, .inl f_42)), ((r 8), .inl ((kf 8), 8, .inl f_45)), ((r 9), .inl ((kf 9), 8, .inl f_48)), ((r 10), .inl ((kf 10), 8, .inl f_51)), ((r 11), .inl ((kf 11), 8, .inl f_54)), (h0, .inr (12, fsMk r (nI 207) 1)), ((r 12), .inl ((kf 12), 300, .inl f_70))] := hD
  rw [gz_upd0z] at hP hD
  refine lv_iinc (v := 3) (lv' := [(2, .int 3), (0, .ref h0), (1, .int 1)]) hx hb dX12_movesAll_276 hl (k := 0) rfl (by decide) (by decide) rfl (fun ls hl => ?_)
  refine lv_goto (tgt := 237) hx hb dX12_movesAll_279 (by decide) ?_
  refine lv_iload_n hx hb dX12_movesAll_237 rfl (lv_at hl 0 rfl) ?_
  refine lv_bipush (v := 24) hx hb dX12_movesAll_238 (by decide) ?_
  refine lv_icmp_ge (tgt := 282) hx hb dX12_movesAll_240 (by decide) (fun c_74 => absurd c_74 (by decide)) (fun c_74 => ?_)
  refine lv_aload_n hx hb dX12_movesAll_243 rfl (lv_at hl 1 rfl) ?_
  refine va_get (D := (dC, dI)) (ci := 12) (v := .ref (r 4)) (C := RX12) (T := TX12) (N := 57) hx hb hts (fun w h => List.mem_cons_of_mem _ (jnGB_X12 w h)) hown hK hP 12 rfl rfl 13 (by decide) (hts _ (List.mem_cons_of_mem _ mGB_43)) (fun _ h9 => h9) rfl dX12_movesAll_244 ?_
  refine lv_iload_n hx hb dX12_movesAll_247 rfl (lv_at hl 0 rfl) ?_
  refine lv_aload_n hx hb dX12_movesAll_248 rfl (lv_at hl 1 rfl) ?_
  refine lv_aload_n hx hb dX12_movesAll_249 rfl (lv_at hl 1 rfl) ?_
  refine va_get (D := (dC, dI)) (ci := 12) (v := .ref (r 4)) (C := RX12) (T := TX12) (N := 57) hx hb hts (fun w h => List.mem_cons_of_mem _ (jnGB_X12 w h)) hown hK hP 12 rfl rfl 13 (by decide) (hts _ (List.mem_cons_of_mem _ mGB_43)) (fun _ h9 => h9) rfl dX12_movesAll_250 ?_
  refine lv_iload_n hx hb dX12_movesAll_253 rfl (lv_at hl 0 rfl) ?_
  refine va_zald hx hb hK hP 0 11 rfl rfl (by unfold vp_in; decide) dX12_movesAll_254 ?_
  refine gz_topi (y := 0) rfl ?_
  refine lv_if_eq (tgt := 262) hx hb dX12_movesAll_255 (by decide) (fun c_75 => ?_) (fun c_75 => absurd (by decide) c_75)
  refine lv_iconst (v := 0) hx hb dX12_movesAll_262 (by decide) ?_
  have hP : va_P (dC, dI) vwCl [((r 4), .inl ((kf 4), 24, .inl (fun _ => 0))), ((r 0), .inl ((kf 0), 6, .inl f_24)), ((r 1), .inl ((kf 1), 36, .inl f_27)), ((r 2), .inl ((kf 2), 24, .inl f_30)), ((r 3), .inl ((kf 3), 24, .inl f_33)), ((r 5), .inl ((kf 5), 24, .inl f_36)), ((r 6), .inl ((kf 6), 24, .inl f_39)), ((r 7), .inl ((kf 7), 24, .inl f_42)), ((r 8), .inl ((kf 8), 8, .inl f_45)), ((r 9), .inl ((kf 9), 8, .inl f_48)), ((r 10), .inl ((kf 10), 8, .inl f_51)), ((r 11), .inl ((kf 11), 8, .inl f_54)), (h0, .inr (12, fsMk r (nI 207) 1)), ((r 12), .inl ((kf 12), 300, .inl f_70))] H := hP
  have hD : va_D A [((r 4), .inl ((kf 4), 24, .inl (fun _ => 0))), ((r 0), .inl ((kf 0), 6, .inl f_24)), ((r 1), .inl ((kf 1), 36, .inl f_27)), ((r 2), .inl ((kf 2), 24, .inl f_30)), ((r 3), .inl ((kf 3), 24, .inl f_33)), ((r 5), .inl ((kf 5), 24, .inl f_36)), ((r 6), .inl ((kf 6), 24, .inl f_39)), ((r 7), .inl ((kf 7), 24, .inl f_42)), ((r 8), .inl ((kf 8), 8, .inl f_45)), ((r 9), .inl ((kf 9), 8, .inl f_48)), ((r 10), .inl ((kf 10), 8, .inl f_51)), ((r 11), .inl ((kf 11), 8, .inl f_54)), (h0, .inr (12, fsMk r (nI 207) 1)), ((r 12), .inl ((kf 12), 300, .inl f_70))] := hD
  have hPc := hP.sub (ws' := [(h0, .inr (12, fsMk r (nI 207) 1)), ((r 12), .inl ((kf 12), 300, .inl f_70))]) [12, 13] rfl
  have hDc := hD.sub (ws' := [(h0, .inr (12, fsMk r (nI 207) 1)), ((r 12), .inl ((kf 12), 300, .inl f_70))]) [12, 13] (by decide) rfl
  have hKc := hK.sub (tys' := [((kf 12), .int)]) [12] rfl
  have hFc := va_free (wc := [(h0, .inr (12, fsMk r (nI 207) 1)), ((r 12), .inl ((kf 12), 300, .inl f_70))]) hD hS hA [12, 13] rfl
  refine va_calli (va_runV (As := [.int 0]) (rest := [.int 3, .ref (r 4)]) ⟨hx, hb, hml, hown, hts⟩ (fX12_moves l dC dI H.size h0 r kf 207 f_70 0 (by decide)) (cwV 1 hts (gz_gV mGB_70 mGB_71 mGB_72 mGB_5 mGB_69 goodGB) rfl rfl rfl (by decide +kernel) ⟨Nat.le_of_ble_eq_true rfl, Nat.le_of_ble_eq_true rfl⟩) ⟨fun a U g mk q => by obtain ⟨q0, q1, qP, qK, qD⟩ := q; exact ⟨q0, q1, qP, va_K.moved (u := U) (U := U.calling g mk a) (Vm.Alike.refl U.vm) qK, qD⟩, va_recv hKc hPc (ci := 12) (q0 := 0) rfl rfl, fun U hU hW => ⟨rfl, by rw [hU], by rw [hU]; exact hPc, va_K.moved hW.alike hKc, hDc.weaken (fun _ _ _ _ => trivial)⟩⟩ rfl rfl hl.1 rfl (lv_room (Nat.le_of_ble_eq_true rfl)) dX12_movesAll_263 ⟨Nat.le_of_ble_eq_true rfl, Nat.le_of_ble_eq_true rfl⟩) hS (fun q _ h => hFc q h) hFc (fun r_77 u t H1 locs ht hvm hw hB hz1 hk1 hS => ?_)
  obtain ⟨f_76, hP1, hK1, hD1⟩ := hB
  rw [ht] at hP1
  have hK1 := va_K.moved hvm.symm hK1
  obtain ⟨hP, hD⟩ := va_join (wr := [((r 4), .inl ((kf 4), 24, .inl (fun _ => 0))), ((r 0), .inl ((kf 0), 6, .inl f_24)), ((r 1), .inl ((kf 1), 36, .inl f_27)), ((r 2), .inl ((kf 2), 24, .inl f_30)), ((r 3), .inl ((kf 3), 24, .inl f_33)), ((r 5), .inl ((kf 5), 24, .inl f_36)), ((r 6), .inl ((kf 6), 24, .inl f_39)), ((r 7), .inl ((kf 7), 24, .inl f_42)), ((r 8), .inl ((kf 8), 8, .inl f_45)), ((r 9), .inl ((kf 9), 8, .inl f_48)), ((r 10), .inl ((kf 10), 8, .inl f_51)), ((r 11), .inl ((kf 11), 8, .inl f_54))]) (w1 := [(h0, .inr (12, fsMk r (nI (207 + 1)) 1)), ((r 12), .inl ((kf 12), 300, .inl f_76))]) hP hD [12, 13] [0, 1, 2, 3, 4, 5, 6, 7, 8, 9, 10, 11] rfl rfl (by decide) (by decide) hk1 hFc hP1 hD1
  generalize H1 = H at hP hS ⊢
  have hP : va_P (dC, dI) vwCl [((r 4), .inl ((kf 4), 24, .inl (fun _ => 0))), ((r 0), .inl ((kf 0), 6, .inl f_24)), ((r 1), .inl ((kf 1), 36, .inl f_27)), ((r 2), .inl ((kf 2), 24, .inl f_30)), ((r 3), .inl ((kf 3), 24, .inl f_33)), ((r 5), .inl ((kf 5), 24, .inl f_36)), ((r 6), .inl ((kf 6), 24, .inl f_39)), ((r 7), .inl ((kf 7), 24, .inl f_42)), ((r 8), .inl ((kf 8), 8, .inl f_45)), ((r 9), .inl ((kf 9), 8, .inl f_48)), ((r 10), .inl ((kf 10), 8, .inl f_51)), ((r 11), .inl ((kf 11), 8, .inl f_54)), (h0, .inr (12, fsMk r (nI (207 + 1)) 1)), ((r 12), .inl ((kf 12), 300, .inl f_76))] H := hP
  have hD : va_D A [((r 4), .inl ((kf 4), 24, .inl (fun _ => 0))), ((r 0), .inl ((kf 0), 6, .inl f_24)), ((r 1), .inl ((kf 1), 36, .inl f_27)), ((r 2), .inl ((kf 2), 24, .inl f_30)), ((r 3), .inl ((kf 3), 24, .inl f_33)), ((r 5), .inl ((kf 5), 24, .inl f_36)), ((r 6), .inl ((kf 6), 24, .inl f_39)), ((r 7), .inl ((kf 7), 24, .inl f_42)), ((r 8), .inl ((kf 8), 8, .inl f_45)), ((r 9), .inl ((kf 9), 8, .inl f_48)), ((r 10), .inl ((kf 10), 8, .inl f_51)), ((r 11), .inl ((kf 11), 8, .inl f_54)), (h0, .inr (12, fsMk r (nI (207 + 1)) 1)), ((r 12), .inl ((kf 12), 300, .inl f_76))] := hD
  subst hw
  have hP : va_P (dC, dI) vwCl [((r 4), .inl ((kf 4), 24, .inl (fun _ => 0))), ((r 0), .inl ((kf 0), 6, .inl f_24)), ((r 1), .inl ((kf 1), 36, .inl f_27)), ((r 2), .inl ((kf 2), 24, .inl f_30)), ((r 3), .inl ((kf 3), 24, .inl f_33)), ((r 5), .inl ((kf 5), 24, .inl f_36)), ((r 6), .inl ((kf 6), 24, .inl f_39)), ((r 7), .inl ((kf 7), 24, .inl f_42)), ((r 8), .inl ((kf 8), 8, .inl f_45)), ((r 9), .inl ((kf 9), 8, .inl f_48)), ((r 10), .inl ((kf 10), 8, .inl f_51)), ((r 11), .inl ((kf 11), 8, .inl f_54)), (h0, .inr (12, fsMk r (nI 208) 1)), ((r 12), .inl ((kf 12), 300, .inl f_76))] H := hP
  have hD : va_D A [((r 4), .inl ((kf 4), 24, .inl (fun _ => 0))), ((r 0), .inl ((kf 0), 6, .inl f_24)), ((r 1), .inl ((kf 1), 36, .inl f_27)), ((r 2), .inl ((kf 2), 24, .inl f_30)), ((r 3), .inl ((kf 3), 24, .inl f_33)), ((r 5), .inl ((kf 5), 24, .inl f_36)), ((r 6), .inl ((kf 6), 24, .inl f_39)), ((r 7), .inl ((kf 7), 24, .inl f_42)), ((r 8), .inl ((kf 8), 8, .inl f_45)), ((r 9), .inl ((kf 9), 8, .inl f_48)), ((r 10), .inl ((kf 10), 8, .inl f_51)), ((r 11), .inl ((kf 11), 8, .inl f_54)), (h0, .inr (12, fsMk r (nI 208) 1)), ((r 12), .inl ((kf 12), 300, .inl f_76))] := hD
  refine lv_iconst (v := 1) hx hb dX12_movesAll_266 (by decide) ?_
  refine lv_icmp_ne (tgt := 274) hx hb dX12_movesAll_267 (by decide) (fun c_78 => ?_) (fun c_78 => absurd c_78 (by decide))
  refine lv_iconst (v := 0) hx hb dX12_movesAll_274 (by decide) ?_
  refine va_zast hx hb hK hP hD hS 0 11 rfl rfl (by unfold vp_in; decide) dX12_movesAll_275 (fun H locs hP hD hS => ?_)
  have hP : va_P (dC, dI) vwCl [((r 4), .inl ((kf 4), 24, .inl (upd (fun _ => 0) (3 : Int32).toNatClampNeg (vp_nar .boolean 0)))), ((r 0), .inl ((kf 0), 6, .inl f_24)), ((r 1), .inl ((kf 1), 36, .inl f_27)), ((r 2), .inl ((kf 2), 24, .inl f_30)), ((r 3), .inl ((kf 3), 24, .inl f_33)), ((r 5), .inl ((kf 5), 24, .inl f_36)), ((r 6), .inl ((kf 6), 24, .inl f_39)), ((r 7), .inl ((kf 7), 24, .inl f_42)), ((r 8), .inl ((kf 8), 8, .inl f_45)), ((r 9), .inl ((kf 9), 8, .inl f_48)), ((r 10), .inl ((kf 10), 8, .inl f_51)), ((r 11), .inl ((kf 11), 8, .inl f_54)), (h0, .inr (12, fsMk r (nI 208) 1)), ((r 12), .inl ((kf 12), 300, .inl f_76))] H := hP
  have hD : va_D A [((r 4), .inl ((kf 4), 24, .inl (upd (fun _ => 0) (3 : Int32).toNatClampNeg (vp_nar .boolean 0)))), ((r 0), .inl ((kf 0), 6, .inl f_24)), ((r 1), .inl ((kf 1), 36, .inl f_27)), ((r 2), .inl ((kf 2), 24, .inl f_30)), ((r 3), .inl ((kf 3), 24, .inl f_33)), ((r 5), .inl ((kf 5), 24, .inl f_36)), ((r 6), .inl ((kf 6), 24, .inl f_39)), ((r 7), .inl ((kf 7), 24, .inl f_42)), ((r 8), .inl ((kf 8), 8, .inl f_45)), ((r 9), .inl ((kf 9), 8, .inl f_48)), ((r 10), .inl ((kf 10), 8, .inl f_51)), ((r 11), .inl ((kf 11), 8, .inl f_54)), (h0, .inr (12, fsMk r (nI 208) 1)), ((r 12), .inl ((kf 12), 300, .inl f_76))] := hD
  rw [gz_upd0z] at hP hD
  refine lv_iinc (v := 4) (lv' := [(2, .int 4), (0, .ref h0), (1, .int 1)]) hx hb dX12_movesAll_276 hl (k := 0) rfl (by decide) (by decide) rfl (fun ls hl => ?_)
  refine lv_goto (tgt := 237) hx hb dX12_movesAll_279 (by decide) ?_
  refine lv_iload_n hx hb dX12_movesAll_237 rfl (lv_at hl 0 rfl) ?_
  refine lv_bipush (v := 24) hx hb dX12_movesAll_238 (by decide) ?_
  refine lv_icmp_ge (tgt := 282) hx hb dX12_movesAll_240 (by decide) (fun c_80 => absurd c_80 (by decide)) (fun c_80 => ?_)
  refine lv_aload_n hx hb dX12_movesAll_243 rfl (lv_at hl 1 rfl) ?_
  refine va_get (D := (dC, dI)) (ci := 12) (v := .ref (r 4)) (C := RX12) (T := TX12) (N := 57) hx hb hts (fun w h => List.mem_cons_of_mem _ (jnGB_X12 w h)) hown hK hP 12 rfl rfl 13 (by decide) (hts _ (List.mem_cons_of_mem _ mGB_43)) (fun _ h9 => h9) rfl dX12_movesAll_244 ?_
  refine lv_iload_n hx hb dX12_movesAll_247 rfl (lv_at hl 0 rfl) ?_
  refine lv_aload_n hx hb dX12_movesAll_248 rfl (lv_at hl 1 rfl) ?_
  refine lv_aload_n hx hb dX12_movesAll_249 rfl (lv_at hl 1 rfl) ?_
  refine va_get (D := (dC, dI)) (ci := 12) (v := .ref (r 4)) (C := RX12) (T := TX12) (N := 57) hx hb hts (fun w h => List.mem_cons_of_mem _ (jnGB_X12 w h)) hown hK hP 12 rfl rfl 13 (by decide) (hts _ (List.mem_cons_of_mem _ mGB_43)) (fun _ h9 => h9) rfl dX12_movesAll_250 ?_
  refine lv_iload_n hx hb dX12_movesAll_253 rfl (lv_at hl 0 rfl) ?_
  refine va_zald hx hb hK hP 0 11 rfl rfl (by unfold vp_in; decide) dX12_movesAll_254 ?_
  refine gz_topi (y := 0) rfl ?_
  refine lv_if_eq (tgt := 262) hx hb dX12_movesAll_255 (by decide) (fun c_81 => ?_) (fun c_81 => absurd (by decide) c_81)
  refine lv_iconst (v := 0) hx hb dX12_movesAll_262 (by decide) ?_
  have hP : va_P (dC, dI) vwCl [((r 4), .inl ((kf 4), 24, .inl (fun _ => 0))), ((r 0), .inl ((kf 0), 6, .inl f_24)), ((r 1), .inl ((kf 1), 36, .inl f_27)), ((r 2), .inl ((kf 2), 24, .inl f_30)), ((r 3), .inl ((kf 3), 24, .inl f_33)), ((r 5), .inl ((kf 5), 24, .inl f_36)), ((r 6), .inl ((kf 6), 24, .inl f_39)), ((r 7), .inl ((kf 7), 24, .inl f_42)), ((r 8), .inl ((kf 8), 8, .inl f_45)), ((r 9), .inl ((kf 9), 8, .inl f_48)), ((r 10), .inl ((kf 10), 8, .inl f_51)), ((r 11), .inl ((kf 11), 8, .inl f_54)), (h0, .inr (12, fsMk r (nI 208) 1)), ((r 12), .inl ((kf 12), 300, .inl f_76))] H := hP
  have hD : va_D A [((r 4), .inl ((kf 4), 24, .inl (fun _ => 0))), ((r 0), .inl ((kf 0), 6, .inl f_24)), ((r 1), .inl ((kf 1), 36, .inl f_27)), ((r 2), .inl ((kf 2), 24, .inl f_30)), ((r 3), .inl ((kf 3), 24, .inl f_33)), ((r 5), .inl ((kf 5), 24, .inl f_36)), ((r 6), .inl ((kf 6), 24, .inl f_39)), ((r 7), .inl ((kf 7), 24, .inl f_42)), ((r 8), .inl ((kf 8), 8, .inl f_45)), ((r 9), .inl ((kf 9), 8, .inl f_48)), ((r 10), .inl ((kf 10), 8, .inl f_51)), ((r 11), .inl ((kf 11), 8, .inl f_54)), (h0, .inr (12, fsMk r (nI 208) 1)), ((r 12), .inl ((kf 12), 300, .inl f_76))] := hD
  have hPc := hP.sub (ws' := [(h0, .inr (12, fsMk r (nI 208) 1)), ((r 12), .inl ((kf 12), 300, .inl f_76))]) [12, 13] rfl
  have hDc := hD.sub (ws' := [(h0, .inr (12, fsMk r (nI 208) 1)), ((r 12), .inl ((kf 12), 300, .inl f_76))]) [12, 13] (by decide) rfl
  have hKc := hK.sub (tys' := [((kf 12), .int)]) [12] rfl
  have hFc := va_free (wc := [(h0, .inr (12, fsMk r (nI 208) 1)), ((r 12), .inl ((kf 12), 300, .inl f_76))]) hD hS hA [12, 13] rfl
  refine va_calli (va_runV (As := [.int 0]) (rest := [.int 4, .ref (r 4)]) ⟨hx, hb, hml, hown, hts⟩ (fX12_moves l dC dI H.size h0 r kf 208 f_76 0 (by decide)) (cwV 1 hts (gz_gV mGB_70 mGB_71 mGB_72 mGB_5 mGB_69 goodGB) rfl rfl rfl (by decide +kernel) ⟨Nat.le_of_ble_eq_true rfl, Nat.le_of_ble_eq_true rfl⟩) ⟨fun a U g mk q => by obtain ⟨q0, q1, qP, qK, qD⟩ := q; exact ⟨q0, q1, qP, va_K.moved (u := U) (U := U.calling g mk a) (Vm.Alike.refl U.vm) qK, qD⟩, va_recv hKc hPc (ci := 12) (q0 := 0) rfl rfl, fun U hU hW => ⟨rfl, by rw [hU], by rw [hU]; exact hPc, va_K.moved hW.alike hKc, hDc.weaken (fun _ _ _ _ => trivial)⟩⟩ rfl rfl hl.1 rfl (lv_room (Nat.le_of_ble_eq_true rfl)) dX12_movesAll_263 ⟨Nat.le_of_ble_eq_true rfl, Nat.le_of_ble_eq_true rfl⟩) hS (fun q _ h => hFc q h) hFc (fun r_83 u t H1 locs ht hvm hw hB hz1 hk1 hS => ?_)
  obtain ⟨f_82, hP1, hK1, hD1⟩ := hB
  rw [ht] at hP1
  have hK1 := va_K.moved hvm.symm hK1
  obtain ⟨hP, hD⟩ := va_join (wr := [((r 4), .inl ((kf 4), 24, .inl (fun _ => 0))), ((r 0), .inl ((kf 0), 6, .inl f_24)), ((r 1), .inl ((kf 1), 36, .inl f_27)), ((r 2), .inl ((kf 2), 24, .inl f_30)), ((r 3), .inl ((kf 3), 24, .inl f_33)), ((r 5), .inl ((kf 5), 24, .inl f_36)), ((r 6), .inl ((kf 6), 24, .inl f_39)), ((r 7), .inl ((kf 7), 24, .inl f_42)), ((r 8), .inl ((kf 8), 8, .inl f_45)), ((r 9), .inl ((kf 9), 8, .inl f_48)), ((r 10), .inl ((kf 10), 8, .inl f_51)), ((r 11), .inl ((kf 11), 8, .inl f_54))]) (w1 := [(h0, .inr (12, fsMk r (nI (208 + 1)) 1)), ((r 12), .inl ((kf 12), 300, .inl f_82))]) hP hD [12, 13] [0, 1, 2, 3, 4, 5, 6, 7, 8, 9, 10, 11] rfl rfl (by decide) (by decide) hk1 hFc hP1 hD1
  generalize H1 = H at hP hS ⊢
  have hP : va_P (dC, dI) vwCl [((r 4), .inl ((kf 4), 24, .inl (fun _ => 0))), ((r 0), .inl ((kf 0), 6, .inl f_24)), ((r 1), .inl ((kf 1), 36, .inl f_27)), ((r 2), .inl ((kf 2), 24, .inl f_30)), ((r 3), .inl ((kf 3), 24, .inl f_33)), ((r 5), .inl ((kf 5), 24, .inl f_36)), ((r 6), .inl ((kf 6), 24, .inl f_39)), ((r 7), .inl ((kf 7), 24, .inl f_42)), ((r 8), .inl ((kf 8), 8, .inl f_45)), ((r 9), .inl ((kf 9), 8, .inl f_48)), ((r 10), .inl ((kf 10), 8, .inl f_51)), ((r 11), .inl ((kf 11), 8, .inl f_54)), (h0, .inr (12, fsMk r (nI (208 + 1)) 1)), ((r 12), .inl ((kf 12), 300, .inl f_82))] H := hP
  have hD : va_D A [((r 4), .inl ((kf 4), 24, .inl (fun _ => 0))), ((r 0), .inl ((kf 0), 6, .inl f_24)), ((r 1), .inl ((kf 1), 36, .inl f_27)), ((r 2), .inl ((kf 2), 24, .inl f_30)), ((r 3), .inl ((kf 3), 24, .inl f_33)), ((r 5), .inl ((kf 5), 24, .inl f_36)), ((r 6), .inl ((kf 6), 24, .inl f_39)), ((r 7), .inl ((kf 7), 24, .inl f_42)), ((r 8), .inl ((kf 8), 8, .inl f_45)), ((r 9), .inl ((kf 9), 8, .inl f_48)), ((r 10), .inl ((kf 10), 8, .inl f_51)), ((r 11), .inl ((kf 11), 8, .inl f_54)), (h0, .inr (12, fsMk r (nI (208 + 1)) 1)), ((r 12), .inl ((kf 12), 300, .inl f_82))] := hD
  subst hw
  have hP : va_P (dC, dI) vwCl [((r 4), .inl ((kf 4), 24, .inl (fun _ => 0))), ((r 0), .inl ((kf 0), 6, .inl f_24)), ((r 1), .inl ((kf 1), 36, .inl f_27)), ((r 2), .inl ((kf 2), 24, .inl f_30)), ((r 3), .inl ((kf 3), 24, .inl f_33)), ((r 5), .inl ((kf 5), 24, .inl f_36)), ((r 6), .inl ((kf 6), 24, .inl f_39)), ((r 7), .inl ((kf 7), 24, .inl f_42)), ((r 8), .inl ((kf 8), 8, .inl f_45)), ((r 9), .inl ((kf 9), 8, .inl f_48)), ((r 10), .inl ((kf 10), 8, .inl f_51)), ((r 11), .inl ((kf 11), 8, .inl f_54)), (h0, .inr (12, fsMk r (nI 209) 1)), ((r 12), .inl ((kf 12), 300, .inl f_82))] H := hP
  have hD : va_D A [((r 4), .inl ((kf 4), 24, .inl (fun _ => 0))), ((r 0), .inl ((kf 0), 6, .inl f_24)), ((r 1), .inl ((kf 1), 36, .inl f_27)), ((r 2), .inl ((kf 2), 24, .inl f_30)), ((r 3), .inl ((kf 3), 24, .inl f_33)), ((r 5), .inl ((kf 5), 24, .inl f_36)), ((r 6), .inl ((kf 6), 24, .inl f_39)), ((r 7), .inl ((kf 7), 24, .inl f_42)), ((r 8), .inl ((kf 8), 8, .inl f_45)), ((r 9), .inl ((kf 9), 8, .inl f_48)), ((r 10), .inl ((kf 10), 8, .inl f_51)), ((r 11), .inl ((kf 11), 8, .inl f_54)), (h0, .inr (12, fsMk r (nI 209) 1)), ((r 12), .inl ((kf 12), 300, .inl f_82))] := hD
  refine lv_iconst (v := 1) hx hb dX12_movesAll_266 (by decide) ?_
  refine lv_icmp_ne (tgt := 274) hx hb dX12_movesAll_267 (by decide) (fun c_84 => ?_) (fun c_84 => absurd c_84 (by decide))
  refine lv_iconst (v := 0) hx hb dX12_movesAll_274 (by decide) ?_
  refine va_zast hx hb hK hP hD hS 0 11 rfl rfl (by unfold vp_in; decide) dX12_movesAll_275 (fun H locs hP hD hS => ?_)
  have hP : va_P (dC, dI) vwCl [((r 4), .inl ((kf 4), 24, .inl (upd (fun _ => 0) (4 : Int32).toNatClampNeg (vp_nar .boolean 0)))), ((r 0), .inl ((kf 0), 6, .inl f_24)), ((r 1), .inl ((kf 1), 36, .inl f_27)), ((r 2), .inl ((kf 2), 24, .inl f_30)), ((r 3), .inl ((kf 3), 24, .inl f_33)), ((r 5), .inl ((kf 5), 24, .inl f_36)), ((r 6), .inl ((kf 6), 24, .inl f_39)), ((r 7), .inl ((kf 7), 24, .inl f_42)), ((r 8), .inl ((kf 8), 8, .inl f_45)), ((r 9), .inl ((kf 9), 8, .inl f_48)), ((r 10), .inl ((kf 10), 8, .inl f_51)), ((r 11), .inl ((kf 11), 8, .inl f_54)), (h0, .inr (12, fsMk r (nI 209) 1)), ((r 12), .inl ((kf 12), 300, .inl f_82))] H := hP
  have hD : va_D A [((r 4), .inl ((kf 4), 24, .inl (upd (fun _ => 0) (4 : Int32).toNatClampNeg (vp_nar .boolean 0)))), ((r 0), .inl ((kf 0), 6, .inl f_24)), ((r 1), .inl ((kf 1), 36, .inl f_27)), ((r 2), .inl ((kf 2), 24, .inl f_30)), ((r 3), .inl ((kf 3), 24, .inl f_33)), ((r 5), .inl ((kf 5), 24, .inl f_36)), ((r 6), .inl ((kf 6), 24, .inl f_39)), ((r 7), .inl ((kf 7), 24, .inl f_42)), ((r 8), .inl ((kf 8), 8, .inl f_45)), ((r 9), .inl ((kf 9), 8, .inl f_48)), ((r 10), .inl ((kf 10), 8, .inl f_51)), ((r 11), .inl ((kf 11), 8, .inl f_54)), (h0, .inr (12, fsMk r (nI 209) 1)), ((r 12), .inl ((kf 12), 300, .inl f_82))] := hD
  rw [gz_upd0z] at hP hD
  refine lv_iinc (v := 5) (lv' := [(2, .int 5), (0, .ref h0), (1, .int 1)]) hx hb dX12_movesAll_276 hl (k := 0) rfl (by decide) (by decide) rfl (fun ls hl => ?_)
  refine lv_goto (tgt := 237) hx hb dX12_movesAll_279 (by decide) ?_
  refine lv_iload_n hx hb dX12_movesAll_237 rfl (lv_at hl 0 rfl) ?_
  refine lv_bipush (v := 24) hx hb dX12_movesAll_238 (by decide) ?_
  refine lv_icmp_ge (tgt := 282) hx hb dX12_movesAll_240 (by decide) (fun c_86 => absurd c_86 (by decide)) (fun c_86 => ?_)
  refine lv_aload_n hx hb dX12_movesAll_243 rfl (lv_at hl 1 rfl) ?_
  refine va_get (D := (dC, dI)) (ci := 12) (v := .ref (r 4)) (C := RX12) (T := TX12) (N := 57) hx hb hts (fun w h => List.mem_cons_of_mem _ (jnGB_X12 w h)) hown hK hP 12 rfl rfl 13 (by decide) (hts _ (List.mem_cons_of_mem _ mGB_43)) (fun _ h9 => h9) rfl dX12_movesAll_244 ?_
  refine lv_iload_n hx hb dX12_movesAll_247 rfl (lv_at hl 0 rfl) ?_
  refine lv_aload_n hx hb dX12_movesAll_248 rfl (lv_at hl 1 rfl) ?_
  refine lv_aload_n hx hb dX12_movesAll_249 rfl (lv_at hl 1 rfl) ?_
  refine va_get (D := (dC, dI)) (ci := 12) (v := .ref (r 4)) (C := RX12) (T := TX12) (N := 57) hx hb hts (fun w h => List.mem_cons_of_mem _ (jnGB_X12 w h)) hown hK hP 12 rfl rfl 13 (by decide) (hts _ (List.mem_cons_of_mem _ mGB_43)) (fun _ h9 => h9) rfl dX12_movesAll_250 ?_
  refine lv_iload_n hx hb dX12_movesAll_253 rfl (lv_at hl 0 rfl) ?_
  refine va_zald hx hb hK hP 0 11 rfl rfl (by unfold vp_in; decide) dX12_movesAll_254 ?_
  refine gz_topi (y := 0) rfl ?_
  refine lv_if_eq (tgt := 262) hx hb dX12_movesAll_255 (by decide) (fun c_87 => ?_) (fun c_87 => absurd (by decide) c_87)
  refine lv_iconst (v := 0) hx hb dX12_movesAll_262 (by decide) ?_
  have hP : va_P (dC, dI) vwCl [((r 4), .inl ((kf 4), 24, .inl (fun _ => 0))), ((r 0), .inl ((kf 0), 6, .inl f_24)), ((r 1), .inl ((kf 1), 36, .inl f_27)), ((r 2), .inl ((kf 2), 24, .inl f_30)), ((r 3), .inl ((kf 3), 24, .inl f_33)), ((r 5), .inl ((kf 5), 24, .inl f_36)), ((r 6), .inl ((kf 6), 24, .inl f_39)), ((r 7), .inl ((kf 7), 24, .inl f_42)), ((r 8), .inl ((kf 8), 8, .inl f_45)), ((r 9), .inl ((kf 9), 8, .inl f_48)), ((r 10), .inl ((kf 10), 8, .inl f_51)), ((r 11), .inl ((kf 11), 8, .inl f_54)), (h0, .inr (12, fsMk r (nI 209) 1)), ((r 12), .inl ((kf 12), 300, .inl f_82))] H := hP
  have hD : va_D A [((r 4), .inl ((kf 4), 24, .inl (fun _ => 0))), ((r 0), .inl ((kf 0), 6, .inl f_24)), ((r 1), .inl ((kf 1), 36, .inl f_27)), ((r 2), .inl ((kf 2), 24, .inl f_30)), ((r 3), .inl ((kf 3), 24, .inl f_33)), ((r 5), .inl ((kf 5), 24, .inl f_36)), ((r 6), .inl ((kf 6), 24, .inl f_39)), ((r 7), .inl ((kf 7), 24, .inl f_42)), ((r 8), .inl ((kf 8), 8, .inl f_45)), ((r 9), .inl ((kf 9), 8, .inl f_48)), ((r 10), .inl ((kf 10), 8, .inl f_51)), ((r 11), .inl ((kf 11), 8, .inl f_54)), (h0, .inr (12, fsMk r (nI 209) 1)), ((r 12), .inl ((kf 12), 300, .inl f_82))] := hD
  have hPc := hP.sub (ws' := [(h0, .inr (12, fsMk r (nI 209) 1)), ((r 12), .inl ((kf 12), 300, .inl f_82))]) [12, 13] rfl
  have hDc := hD.sub (ws' := [(h0, .inr (12, fsMk r (nI 209) 1)), ((r 12), .inl ((kf 12), 300, .inl f_82))]) [12, 13] (by decide) rfl
  have hKc := hK.sub (tys' := [((kf 12), .int)]) [12] rfl
  have hFc := va_free (wc := [(h0, .inr (12, fsMk r (nI 209) 1)), ((r 12), .inl ((kf 12), 300, .inl f_82))]) hD hS hA [12, 13] rfl
  refine va_calli (va_runV (As := [.int 0]) (rest := [.int 5, .ref (r 4)]) ⟨hx, hb, hml, hown, hts⟩ (fX12_moves l dC dI H.size h0 r kf 209 f_82 0 (by decide)) (cwV 1 hts (gz_gV mGB_70 mGB_71 mGB_72 mGB_5 mGB_69 goodGB) rfl rfl rfl (by decide +kernel) ⟨Nat.le_of_ble_eq_true rfl, Nat.le_of_ble_eq_true rfl⟩) ⟨fun a U g mk q => by obtain ⟨q0, q1, qP, qK, qD⟩ := q; exact ⟨q0, q1, qP, va_K.moved (u := U) (U := U.calling g mk a) (Vm.Alike.refl U.vm) qK, qD⟩, va_recv hKc hPc (ci := 12) (q0 := 0) rfl rfl, fun U hU hW => ⟨rfl, by rw [hU], by rw [hU]; exact hPc, va_K.moved hW.alike hKc, hDc.weaken (fun _ _ _ _ => trivial)⟩⟩ rfl rfl hl.1 rfl (lv_room (Nat.le_of_ble_eq_true rfl)) dX12_movesAll_263 ⟨Nat.le_of_ble_eq_true rfl, Nat.le_of_ble_eq_true rfl⟩) hS (fun q _ h => hFc q h) hFc (fun r_89 u t H1 locs ht hvm hw hB hz1 hk1 hS => ?_)
  obtain ⟨f_88, hP1, hK1, hD1⟩ := hB
  rw [ht] at hP1
  have hK1 := va_K.moved hvm.symm hK1
  obtain ⟨hP, hD⟩ := va_join (wr := [((r 4), .inl ((kf 4), 24, .inl (fun _ => 0))), ((r 0), .inl ((kf 0), 6, .inl f_24)), ((r 1), .inl ((kf 1), 36, .inl f_27)), ((r 2), .inl ((kf 2), 24, .inl f_30)), ((r 3), .inl ((kf 3), 24, .inl f_33)), ((r 5), .inl ((kf 5), 24, .inl f_36)), ((r 6), .inl ((kf 6), 24, .inl f_39)), ((r 7), .inl ((kf 7), 24, .inl f_42)), ((r 8), .inl ((kf 8), 8, .inl f_45)), ((r 9), .inl ((kf 9), 8, .inl f_48)), ((r 10), .inl ((kf 10), 8, .inl f_51)), ((r 11), .inl ((kf 11), 8, .inl f_54))]) (w1 := [(h0, .inr (12, fsMk r (nI (209 + 1)) 1)), ((r 12), .inl ((kf 12), 300, .inl f_88))]) hP hD [12, 13] [0, 1, 2, 3, 4, 5, 6, 7, 8, 9, 10, 11] rfl rfl (by decide) (by decide) hk1 hFc hP1 hD1
  generalize H1 = H at hP hS ⊢
  have hP : va_P (dC, dI) vwCl [((r 4), .inl ((kf 4), 24, .inl (fun _ => 0))), ((r 0), .inl ((kf 0), 6, .inl f_24)), ((r 1), .inl ((kf 1), 36, .inl f_27)), ((r 2), .inl ((kf 2), 24, .inl f_30)), ((r 3), .inl ((kf 3), 24, .inl f_33)), ((r 5), .inl ((kf 5), 24, .inl f_36)), ((r 6), .inl ((kf 6), 24, .inl f_39)), ((r 7), .inl ((kf 7), 24, .inl f_42)), ((r 8), .inl ((kf 8), 8, .inl f_45)), ((r 9), .inl ((kf 9), 8, .inl f_48)), ((r 10), .inl ((kf 10), 8, .inl f_51)), ((r 11), .inl ((kf 11), 8, .inl f_54)), (h0, .inr (12, fsMk r (nI (209 + 1)) 1)), ((r 12), .inl ((kf 12), 300, .inl f_88))] H := hP
  have hD : va_D A [((r 4), .inl ((kf 4), 24, .inl (fun _ => 0))), ((r 0), .inl ((kf 0), 6, .inl f_24)), ((r 1), .inl ((kf 1), 36, .inl f_27)), ((r 2), .inl ((kf 2), 24, .inl f_30)), ((r 3), .inl ((kf 3), 24, .inl f_33)), ((r 5), .inl ((kf 5), 24, .inl f_36)), ((r 6), .inl ((kf 6), 24, .inl f_39)), ((r 7), .inl ((kf 7), 24, .inl f_42)), ((r 8), .inl ((kf 8), 8, .inl f_45)), ((r 9), .inl ((kf 9), 8, .inl f_48)), ((r 10), .inl ((kf 10), 8, .inl f_51)), ((r 11), .inl ((kf 11), 8, .inl f_54)), (h0, .inr (12, fsMk r (nI (209 + 1)) 1)), ((r 12), .inl ((kf 12), 300, .inl f_88))] := hD
  subst hw
  have hP : va_P (dC, dI) vwCl [((r 4), .inl ((kf 4), 24, .inl (fun _ => 0))), ((r 0), .inl ((kf 0), 6, .inl f_24)), ((r 1), .inl ((kf 1), 36, .inl f_27)), ((r 2), .inl ((kf 2), 24, .inl f_30)), ((r 3), .inl ((kf 3), 24, .inl f_33)), ((r 5), .inl ((kf 5), 24, .inl f_36)), ((r 6), .inl ((kf 6), 24, .inl f_39)), ((r 7), .inl ((kf 7), 24, .inl f_42)), ((r 8), .inl ((kf 8), 8, .inl f_45)), ((r 9), .inl ((kf 9), 8, .inl f_48)), ((r 10), .inl ((kf 10), 8, .inl f_51)), ((r 11), .inl ((kf 11), 8, .inl f_54)), (h0, .inr (12, fsMk r (nI 210) 1)), ((r 12), .inl ((kf 12), 300, .inl f_88))] H := hP
  have hD : va_D A [((r 4), .inl ((kf 4), 24, .inl (fun _ => 0))), ((r 0), .inl ((kf 0), 6, .inl f_24)), ((r 1), .inl ((kf 1), 36, .inl f_27)), ((r 2), .inl ((kf 2), 24, .inl f_30)), ((r 3), .inl ((kf 3), 24, .inl f_33)), ((r 5), .inl ((kf 5), 24, .inl f_36)), ((r 6), .inl ((kf 6), 24, .inl f_39)), ((r 7), .inl ((kf 7), 24, .inl f_42)), ((r 8), .inl ((kf 8), 8, .inl f_45)), ((r 9), .inl ((kf 9), 8, .inl f_48)), ((r 10), .inl ((kf 10), 8, .inl f_51)), ((r 11), .inl ((kf 11), 8, .inl f_54)), (h0, .inr (12, fsMk r (nI 210) 1)), ((r 12), .inl ((kf 12), 300, .inl f_88))] := hD
  refine lv_iconst (v := 1) hx hb dX12_movesAll_266 (by decide) ?_
  refine lv_icmp_ne (tgt := 274) hx hb dX12_movesAll_267 (by decide) (fun c_90 => ?_) (fun c_90 => absurd c_90 (by decide))
  refine lv_iconst (v := 0) hx hb dX12_movesAll_274 (by decide) ?_
  refine va_zast hx hb hK hP hD hS 0 11 rfl rfl (by unfold vp_in; decide) dX12_movesAll_275 (fun H locs hP hD hS => ?_)
  have hP : va_P (dC, dI) vwCl [((r 4), .inl ((kf 4), 24, .inl (upd (fun _ => 0) (5 : Int32).toNatClampNeg (vp_nar .boolean 0)))), ((r 0), .inl ((kf 0), 6, .inl f_24)), ((r 1), .inl ((kf 1), 36, .inl f_27)), ((r 2), .inl ((kf 2), 24, .inl f_30)), ((r 3), .inl ((kf 3), 24, .inl f_33)), ((r 5), .inl ((kf 5), 24, .inl f_36)), ((r 6), .inl ((kf 6), 24, .inl f_39)), ((r 7), .inl ((kf 7), 24, .inl f_42)), ((r 8), .inl ((kf 8), 8, .inl f_45)), ((r 9), .inl ((kf 9), 8, .inl f_48)), ((r 10), .inl ((kf 10), 8, .inl f_51)), ((r 11), .inl ((kf 11), 8, .inl f_54)), (h0, .inr (12, fsMk r (nI 210) 1)), ((r 12), .inl ((kf 12), 300, .inl f_88))] H := hP
  have hD : va_D A [((r 4), .inl ((kf 4), 24, .inl (upd (fun _ => 0) (5 : Int32).toNatClampNeg (vp_nar .boolean 0)))), ((r 0), .inl ((kf 0), 6, .inl f_24)), ((r 1), .inl ((kf 1), 36, .inl f_27)), ((r 2), .inl ((kf 2), 24, .inl f_30)), ((r 3), .inl ((kf 3), 24, .inl f_33)), ((r 5), .inl ((kf 5), 24, .inl f_36)), ((r 6), .inl ((kf 6), 24, .inl f_39)), ((r 7), .inl ((kf 7), 24, .inl f_42)), ((r 8), .inl ((kf 8), 8, .inl f_45)), ((r 9), .inl ((kf 9), 8, .inl f_48)), ((r 10), .inl ((kf 10), 8, .inl f_51)), ((r 11), .inl ((kf 11), 8, .inl f_54)), (h0, .inr (12, fsMk r (nI 210) 1)), ((r 12), .inl ((kf 12), 300, .inl f_88))] := hD
  rw [gz_upd0z] at hP hD
  refine lv_iinc (v := 6) (lv' := [(2, .int 6), (0, .ref h0), (1, .int 1)]) hx hb dX12_movesAll_276 hl (k := 0) rfl (by decide) (by decide) rfl (fun ls hl => ?_)
  refine lv_goto (tgt := 237) hx hb dX12_movesAll_279 (by decide) ?_
  refine lv_iload_n hx hb dX12_movesAll_237 rfl (lv_at hl 0 rfl) ?_
  refine lv_bipush (v := 24) hx hb dX12_movesAll_238 (by decide) ?_
  refine lv_icmp_ge (tgt := 282) hx hb dX12_movesAll_240 (by decide) (fun c_92 => absurd c_92 (by decide)) (fun c_92 => ?_)
  refine lv_aload_n hx hb dX12_movesAll_243 rfl (lv_at hl 1 rfl) ?_
  refine va_get (D := (dC, dI)) (ci := 12) (v := .ref (r 4)) (C := RX12) (T := TX12) (N := 57) hx hb hts (fun w h => List.mem_cons_of_mem _ (jnGB_X12 w h)) hown hK hP 12 rfl rfl 13 (by decide) (hts _ (List.mem_cons_of_mem _ mGB_43)) (fun _ h9 => h9) rfl dX12_movesAll_244 ?_
  refine lv_iload_n hx hb dX12_movesAll_247 rfl (lv_at hl 0 rfl) ?_
  refine lv_aload_n hx hb dX12_movesAll_248 rfl (lv_at hl 1 rfl) ?_
  refine lv_aload_n hx hb dX12_movesAll_249 rfl (lv_at hl 1 rfl) ?_
  refine va_get (D := (dC, dI)) (ci := 12) (v := .ref (r 4)) (C := RX12) (T := TX12) (N := 57) hx hb hts (fun w h => List.mem_cons_of_mem _ (jnGB_X12 w h)) hown hK hP 12 rfl rfl 13 (by decide) (hts _ (List.mem_cons_of_mem _ mGB_43)) (fun _ h9 => h9) rfl dX12_movesAll_250 ?_
  refine lv_iload_n hx hb dX12_movesAll_253 rfl (lv_at hl 0 rfl) ?_
  refine va_zald hx hb hK hP 0 11 rfl rfl (by unfold vp_in; decide) dX12_movesAll_254 ?_
  refine gz_topi (y := 0) rfl ?_
  refine lv_if_eq (tgt := 262) hx hb dX12_movesAll_255 (by decide) (fun c_93 => ?_) (fun c_93 => absurd (by decide) c_93)
  refine lv_iconst (v := 0) hx hb dX12_movesAll_262 (by decide) ?_
  have hP : va_P (dC, dI) vwCl [((r 4), .inl ((kf 4), 24, .inl (fun _ => 0))), ((r 0), .inl ((kf 0), 6, .inl f_24)), ((r 1), .inl ((kf 1), 36, .inl f_27)), ((r 2), .inl ((kf 2), 24, .inl f_30)), ((r 3), .inl ((kf 3), 24, .inl f_33)), ((r 5), .inl ((kf 5), 24, .inl f_36)), ((r 6), .inl ((kf 6), 24, .inl f_39)), ((r 7), .inl ((kf 7), 24, .inl f_42)), ((r 8), .inl ((kf 8), 8, .inl f_45)), ((r 9), .inl ((kf 9), 8, .inl f_48)), ((r 10), .inl ((kf 10), 8, .inl f_51)), ((r 11), .inl ((kf 11), 8, .inl f_54)), (h0, .inr (12, fsMk r (nI 210) 1)), ((r 12), .inl ((kf 12), 300, .inl f_88))] H := hP
  have hD : va_D A [((r 4), .inl ((kf 4), 24, .inl (fun _ => 0))), ((r 0), .inl ((kf 0), 6, .inl f_24)), ((r 1), .inl ((kf 1), 36, .inl f_27)), ((r 2), .inl ((kf 2), 24, .inl f_30)), ((r 3), .inl ((kf 3), 24, .inl f_33)), ((r 5), .inl ((kf 5), 24, .inl f_36)), ((r 6), .inl ((kf 6), 24, .inl f_39)), ((r 7), .inl ((kf 7), 24, .inl f_42)), ((r 8), .inl ((kf 8), 8, .inl f_45)), ((r 9), .inl ((kf 9), 8, .inl f_48)), ((r 10), .inl ((kf 10), 8, .inl f_51)), ((r 11), .inl ((kf 11), 8, .inl f_54)), (h0, .inr (12, fsMk r (nI 210) 1)), ((r 12), .inl ((kf 12), 300, .inl f_88))] := hD
  have hPc := hP.sub (ws' := [(h0, .inr (12, fsMk r (nI 210) 1)), ((r 12), .inl ((kf 12), 300, .inl f_88))]) [12, 13] rfl
  have hDc := hD.sub (ws' := [(h0, .inr (12, fsMk r (nI 210) 1)), ((r 12), .inl ((kf 12), 300, .inl f_88))]) [12, 13] (by decide) rfl
  have hKc := hK.sub (tys' := [((kf 12), .int)]) [12] rfl
  have hFc := va_free (wc := [(h0, .inr (12, fsMk r (nI 210) 1)), ((r 12), .inl ((kf 12), 300, .inl f_88))]) hD hS hA [12, 13] rfl
  refine va_calli (va_runV (As := [.int 0]) (rest := [.int 6, .ref (r 4)]) ⟨hx, hb, hml, hown, hts⟩ (fX12_moves l dC dI H.size h0 r kf 210 f_88 0 (by decide)) (cwV 1 hts (gz_gV mGB_70 mGB_71 mGB_72 mGB_5 mGB_69 goodGB) rfl rfl rfl (by decide +kernel) ⟨Nat.le_of_ble_eq_true rfl, Nat.le_of_ble_eq_true rfl⟩) ⟨fun a U g mk q => by obtain ⟨q0, q1, qP, qK, qD⟩ := q; exact ⟨q0, q1, qP, va_K.moved (u := U) (U := U.calling g mk a) (Vm.Alike.refl U.vm) qK, qD⟩, va_recv hKc hPc (ci := 12) (q0 := 0) rfl rfl, fun U hU hW => ⟨rfl, by rw [hU], by rw [hU]; exact hPc, va_K.moved hW.alike hKc, hDc.weaken (fun _ _ _ _ => trivial)⟩⟩ rfl rfl hl.1 rfl (lv_room (Nat.le_of_ble_eq_true rfl)) dX12_movesAll_263 ⟨Nat.le_of_ble_eq_true rfl, Nat.le_of_ble_eq_true rfl⟩) hS (fun q _ h => hFc q h) hFc (fun r_95 u t H1 locs ht hvm hw hB hz1 hk1 hS => ?_)
  obtain ⟨f_94, hP1, hK1, hD1⟩ := hB
  rw [ht] at hP1
  have hK1 := va_K.moved hvm.symm hK1
  obtain ⟨hP, hD⟩ := va_join (wr := [((r 4), .inl ((kf 4), 24, .inl (fun _ => 0))), ((r 0), .inl ((kf 0), 6, .inl f_24)), ((r 1), .inl ((kf 1), 36, .inl f_27)), ((r 2), .inl ((kf 2), 24, .inl f_30)), ((r 3), .inl ((kf 3), 24, .inl f_33)), ((r 5), .inl ((kf 5), 24, .inl f_36)), ((r 6), .inl ((kf 6), 24, .inl f_39)), ((r 7), .inl ((kf 7), 24, .inl f_42)), ((r 8), .inl ((kf 8), 8, .inl f_45)), ((r 9), .inl ((kf 9), 8, .inl f_48)), ((r 10), .inl ((kf 10), 8, .inl f_51)), ((r 11), .inl ((kf 11), 8, .inl f_54))]) (w1 := [(h0, .inr (12, fsMk r (nI (210 + 1)) 1)), ((r 12), .inl ((kf 12), 300, .inl f_94))]) hP hD [12, 13] [0, 1, 2, 3, 4, 5, 6, 7, 8, 9, 10, 11] rfl rfl (by decide) (by decide) hk1 hFc hP1 hD1
  generalize H1 = H at hP hS ⊢
  have hP : va_P (dC, dI) vwCl [((r 4), .inl ((kf 4), 24, .inl (fun _ => 0))), ((r 0), .inl ((kf 0), 6, .inl f_24)), ((r 1), .inl ((kf 1), 36, .inl f_27)), ((r 2), .inl ((kf 2), 24, .inl f_30)), ((r 3), .inl ((kf 3), 24, .inl f_33)), ((r 5), .inl ((kf 5), 24, .inl f_36)), ((r 6), .inl ((kf 6), 24, .inl f_39)), ((r 7), .inl ((kf 7), 24, .inl f_42)), ((r 8), .inl ((kf 8), 8, .inl f_45)), ((r 9), .inl ((kf 9), 8, .inl f_48)), ((r 10), .inl ((kf 10), 8, .inl f_51)), ((r 11), .inl ((kf 11), 8, .inl f_54)), (h0, .inr (12, fsMk r (nI (210 + 1)) 1)), ((r 12), .inl ((kf 12), 300, .inl f_94))] H := hP
  have hD : va_D A [((r 4), .inl ((kf 4), 24, .inl (fun _ => 0))), ((r 0), .inl ((kf 0), 6, .inl f_24)), ((r 1), .inl ((kf 1), 36, .inl f_27)), ((r 2), .inl ((kf 2), 24, .inl f_30)), ((r 3), .inl ((kf 3), 24, .inl f_33)), ((r 5), .inl ((kf 5), 24, .inl f_36)), ((r 6), .inl ((kf 6), 24, .inl f_39)), ((r 7), .inl ((kf 7), 24, .inl f_42)), ((r 8), .inl ((kf 8), 8, .inl f_45)), ((r 9), .inl ((kf 9), 8, .inl f_48)), ((r 10), .inl ((kf 10), 8, .inl f_51)), ((r 11), .inl ((kf 11), 8, .inl f_54)), (h0, .inr (12, fsMk r (nI (210 + 1)) 1)), ((r 12), .inl ((kf 12), 300, .inl f_94))] := hD
  subst hw
  have hP : va_P (dC, dI) vwCl [((r 4), .inl ((kf 4), 24, .inl (fun _ => 0))), ((r 0), .inl ((kf 0), 6, .inl f_24)), ((r 1), .inl ((kf 1), 36, .inl f_27)), ((r 2), .inl ((kf 2), 24, .inl f_30)), ((r 3), .inl ((kf 3), 24, .inl f_33)), ((r 5), .inl ((kf 5), 24, .inl f_36)), ((r 6), .inl ((kf 6), 24, .inl f_39)), ((r 7), .inl ((kf 7), 24, .inl f_42)), ((r 8), .inl ((kf 8), 8, .inl f_45)), ((r 9), .inl ((kf 9), 8, .inl f_48)), ((r 10), .inl ((kf 10), 8, .inl f_51)), ((r 11), .inl ((kf 11), 8, .inl f_54)), (h0, .inr (12, fsMk r (nI 211) 1)), ((r 12), .inl ((kf 12), 300, .inl f_94))] H := hP
  have hD : va_D A [((r 4), .inl ((kf 4), 24, .inl (fun _ => 0))), ((r 0), .inl ((kf 0), 6, .inl f_24)), ((r 1), .inl ((kf 1), 36, .inl f_27)), ((r 2), .inl ((kf 2), 24, .inl f_30)), ((r 3), .inl ((kf 3), 24, .inl f_33)), ((r 5), .inl ((kf 5), 24, .inl f_36)), ((r 6), .inl ((kf 6), 24, .inl f_39)), ((r 7), .inl ((kf 7), 24, .inl f_42)), ((r 8), .inl ((kf 8), 8, .inl f_45)), ((r 9), .inl ((kf 9), 8, .inl f_48)), ((r 10), .inl ((kf 10), 8, .inl f_51)), ((r 11), .inl ((kf 11), 8, .inl f_54)), (h0, .inr (12, fsMk r (nI 211) 1)), ((r 12), .inl ((kf 12), 300, .inl f_94))] := hD
  refine lv_iconst (v := 1) hx hb dX12_movesAll_266 (by decide) ?_
  refine lv_icmp_ne (tgt := 274) hx hb dX12_movesAll_267 (by decide) (fun c_96 => ?_) (fun c_96 => absurd c_96 (by decide))
  refine lv_iconst (v := 0) hx hb dX12_movesAll_274 (by decide) ?_
  refine va_zast hx hb hK hP hD hS 0 11 rfl rfl (by unfold vp_in; decide) dX12_movesAll_275 (fun H locs hP hD hS => ?_)
  have hP : va_P (dC, dI) vwCl [((r 4), .inl ((kf 4), 24, .inl (upd (fun _ => 0) (6 : Int32).toNatClampNeg (vp_nar .boolean 0)))), ((r 0), .inl ((kf 0), 6, .inl f_24)), ((r 1), .inl ((kf 1), 36, .inl f_27)), ((r 2), .inl ((kf 2), 24, .inl f_30)), ((r 3), .inl ((kf 3), 24, .inl f_33)), ((r 5), .inl ((kf 5), 24, .inl f_36)), ((r 6), .inl ((kf 6), 24, .inl f_39)), ((r 7), .inl ((kf 7), 24, .inl f_42)), ((r 8), .inl ((kf 8), 8, .inl f_45)), ((r 9), .inl ((kf 9), 8, .inl f_48)), ((r 10), .inl ((kf 10), 8, .inl f_51)), ((r 11), .inl ((kf 11), 8, .inl f_54)), (h0, .inr (12, fsMk r (nI 211) 1)), ((r 12), .inl ((kf 12), 300, .inl f_94))] H := hP
  have hD : va_D A [((r 4), .inl ((kf 4), 24, .inl (upd (fun _ => 0) (6 : Int32).toNatClampNeg (vp_nar .boolean 0)))), ((r 0), .inl ((kf 0), 6, .inl f_24)), ((r 1), .inl ((kf 1), 36, .inl f_27)), ((r 2), .inl ((kf 2), 24, .inl f_30)), ((r 3), .inl ((kf 3), 24, .inl f_33)), ((r 5), .inl ((kf 5), 24, .inl f_36)), ((r 6), .inl ((kf 6), 24, .inl f_39)), ((r 7), .inl ((kf 7), 24, .inl f_42)), ((r 8), .inl ((kf 8), 8, .inl f_45)), ((r 9), .inl ((kf 9), 8, .inl f_48)), ((r 10), .inl ((kf 10), 8, .inl f_51)), ((r 11), .inl ((kf 11), 8, .inl f_54)), (h0, .inr (12, fsMk r (nI 211) 1)), ((r 12), .inl ((kf 12), 300, .inl f_94))] := hD
  rw [gz_upd0z] at hP hD
  refine lv_iinc (v := 7) (lv' := [(2, .int 7), (0, .ref h0), (1, .int 1)]) hx hb dX12_movesAll_276 hl (k := 0) rfl (by decide) (by decide) rfl (fun ls hl => ?_)
  refine lv_goto (tgt := 237) hx hb dX12_movesAll_279 (by decide) ?_
  refine lv_iload_n hx hb dX12_movesAll_237 rfl (lv_at hl 0 rfl) ?_
  refine lv_bipush (v := 24) hx hb dX12_movesAll_238 (by decide) ?_
  refine lv_icmp_ge (tgt := 282) hx hb dX12_movesAll_240 (by decide) (fun c_98 => absurd c_98 (by decide)) (fun c_98 => ?_)
  refine lv_aload_n hx hb dX12_movesAll_243 rfl (lv_at hl 1 rfl) ?_
  refine va_get (D := (dC, dI)) (ci := 12) (v := .ref (r 4)) (C := RX12) (T := TX12) (N := 57) hx hb hts (fun w h => List.mem_cons_of_mem _ (jnGB_X12 w h)) hown hK hP 12 rfl rfl 13 (by decide) (hts _ (List.mem_cons_of_mem _ mGB_43)) (fun _ h9 => h9) rfl dX12_movesAll_244 ?_
  refine lv_iload_n hx hb dX12_movesAll_247 rfl (lv_at hl 0 rfl) ?_
  refine lv_aload_n hx hb dX12_movesAll_248 rfl (lv_at hl 1 rfl) ?_
  refine lv_aload_n hx hb dX12_movesAll_249 rfl (lv_at hl 1 rfl) ?_
  refine va_get (D := (dC, dI)) (ci := 12) (v := .ref (r 4)) (C := RX12) (T := TX12) (N := 57) hx hb hts (fun w h => List.mem_cons_of_mem _ (jnGB_X12 w h)) hown hK hP 12 rfl rfl 13 (by decide) (hts _ (List.mem_cons_of_mem _ mGB_43)) (fun _ h9 => h9) rfl dX12_movesAll_250 ?_
  refine lv_iload_n hx hb dX12_movesAll_253 rfl (lv_at hl 0 rfl) ?_
  refine va_zald hx hb hK hP 0 11 rfl rfl (by unfold vp_in; decide) dX12_movesAll_254 ?_
  refine gz_topi (y := 0) rfl ?_
  refine lv_if_eq (tgt := 262) hx hb dX12_movesAll_255 (by decide) (fun c_99 => ?_) (fun c_99 => absurd (by decide) c_99)
  refine lv_iconst (v := 0) hx hb dX12_movesAll_262 (by decide) ?_
  have hP : va_P (dC, dI) vwCl [((r 4), .inl ((kf 4), 24, .inl (fun _ => 0))), ((r 0), .inl ((kf 0), 6, .inl f_24)), ((r 1), .inl ((kf 1), 36, .inl f_27)), ((r 2), .inl ((kf 2), 24, .inl f_30)), ((r 3), .inl ((kf 3), 24, .inl f_33)), ((r 5), .inl ((kf 5), 24, .inl f_36)), ((r 6), .inl ((kf 6), 24, .inl f_39)), ((r 7), .inl ((kf 7), 24, .inl f_42)), ((r 8), .inl ((kf 8), 8, .inl f_45)), ((r 9), .inl ((kf 9), 8, .inl f_48)), ((r 10), .inl ((kf 10), 8, .inl f_51)), ((r 11), .inl ((kf 11), 8, .inl f_54)), (h0, .inr (12, fsMk r (nI 211) 1)), ((r 12), .inl ((kf 12), 300, .inl f_94))] H := hP
  have hD : va_D A [((r 4), .inl ((kf 4), 24, .inl (fun _ => 0))), ((r 0), .inl ((kf 0), 6, .inl f_24)), ((r 1), .inl ((kf 1), 36, .inl f_27)), ((r 2), .inl ((kf 2), 24, .inl f_30)), ((r 3), .inl ((kf 3), 24, .inl f_33)), ((r 5), .inl ((kf 5), 24, .inl f_36)), ((r 6), .inl ((kf 6), 24, .inl f_39)), ((r 7), .inl ((kf 7), 24, .inl f_42)), ((r 8), .inl ((kf 8), 8, .inl f_45)), ((r 9), .inl ((kf 9), 8, .inl f_48)), ((r 10), .inl ((kf 10), 8, .inl f_51)), ((r 11), .inl ((kf 11), 8, .inl f_54)), (h0, .inr (12, fsMk r (nI 211) 1)), ((r 12), .inl ((kf 12), 300, .inl f_94))] := hD
  have hPc := hP.sub (ws' := [(h0, .inr (12, fsMk r (nI 211) 1)), ((r 12), .inl ((kf 12), 300, .inl f_94))]) [12, 13] rfl
  have hDc := hD.sub (ws' := [(h0, .inr (12, fsMk r (nI 211) 1)), ((r 12), .inl ((kf 12), 300, .inl f_94))]) [12, 13] (by decide) rfl
  have hKc := hK.sub (tys' := [((kf 12), .int)]) [12] rfl
  have hFc := va_free (wc := [(h0, .inr (12, fsMk r (nI 211) 1)), ((r 12), .inl ((kf 12), 300, .inl f_94))]) hD hS hA [12, 13] rfl
  refine va_calli (va_runV (As := [.int 0]) (rest := [.int 7, .ref (r 4)]) ⟨hx, hb, hml, hown, hts⟩ (fX12_moves l dC dI H.size h0 r kf 211 f_94 0 (by decide)) (cwV 1 hts (gz_gV mGB_70 mGB_71 mGB_72 mGB_5 mGB_69 goodGB) rfl rfl rfl (by decide +kernel) ⟨Nat.le_of_ble_eq_true rfl, Nat.le_of_ble_eq_true rfl⟩) ⟨fun a U g mk q => by obtain ⟨q0, q1, qP, qK, qD⟩ := q; exact ⟨q0, q1, qP, va_K.moved (u := U) (U := U.calling g mk a) (Vm.Alike.refl U.vm) qK, qD⟩, va_recv hKc hPc (ci := 12) (q0 := 0) rfl rfl, fun U hU hW => ⟨rfl, by rw [hU], by rw [hU]; exact hPc, va_K.moved hW.alike hKc, hDc.weaken (fun _ _ _ _ => trivial)⟩⟩ rfl rfl hl.1 rfl (lv_room (Nat.le_of_ble_eq_true rfl)) dX12_movesAll_263 ⟨Nat.le_of_ble_eq_true rfl, Nat.le_of_ble_eq_true rfl⟩) hS (fun q _ h => hFc q h) hFc (fun r_101 u t H1 locs ht hvm hw hB hz1 hk1 hS => ?_)
  obtain ⟨f_100, hP1, hK1, hD1⟩ := hB
  rw [ht] at hP1
  have hK1 := va_K.moved hvm.symm hK1
  obtain ⟨hP, hD⟩ := va_join (wr := [((r 4), .inl ((kf 4), 24, .inl (fun _ => 0))), ((r 0), .inl ((kf 0), 6, .inl f_24)), ((r 1), .inl ((kf 1), 36, .inl f_27)), ((r 2), .inl ((kf 2), 24, .inl f_30)), ((r 3), .inl ((kf 3), 24, .inl f_33)), ((r 5), .inl ((kf 5), 24, .inl f_36)), ((r 6), .inl ((kf 6), 24, .inl f_39)), ((r 7), .inl ((kf 7), 24, .inl f_42)), ((r 8), .inl ((kf 8), 8, .inl f_45)), ((r 9), .inl ((kf 9), 8, .inl f_48)), ((r 10), .inl ((kf 10), 8, .inl f_51)), ((r 11), .inl ((kf 11), 8, .inl f_54))]) (w1 := [(h0, .inr (12, fsMk r (nI (211 + 1)) 1)), ((r 12), .inl ((kf 12), 300, .inl f_100))]) hP hD [12, 13] [0, 1, 2, 3, 4, 5, 6, 7, 8, 9, 10, 11] rfl rfl (by decide) (by decide) hk1 hFc hP1 hD1
  generalize H1 = H at hP hS ⊢
  have hP : va_P (dC, dI) vwCl [((r 4), .inl ((kf 4), 24, .inl (fun _ => 0))), ((r 0), .inl ((kf 0), 6, .inl f_24)), ((r 1), .inl ((kf 1), 36, .inl f_27)), ((r 2), .inl ((kf 2), 24, .inl f_30)), ((r 3), .inl ((kf 3), 24, .inl f_33)), ((r 5), .inl ((kf 5), 24, .inl f_36)), ((r 6), .inl ((kf 6), 24, .inl f_39)), ((r 7), .inl ((kf 7), 24, .inl f_42)), ((r 8), .inl ((kf 8), 8, .inl f_45)), ((r 9), .inl ((kf 9), 8, .inl f_48)), ((r 10), .inl ((kf 10), 8, .inl f_51)), ((r 11), .inl ((kf 11), 8, .inl f_54)), (h0, .inr (12, fsMk r (nI (211 + 1)) 1)), ((r 12), .inl ((kf 12), 300, .inl f_100))] H := hP
  have hD : va_D A [((r 4), .inl ((kf 4), 24, .inl (fun _ => 0))), ((r 0), .inl ((kf 0), 6, .inl f_24)), ((r 1), .inl ((kf 1), 36, .inl f_27)), ((r 2), .inl ((kf 2), 24, .inl f_30)), ((r 3), .inl ((kf 3), 24, .inl f_33)), ((r 5), .inl ((kf 5), 24, .inl f_36)), ((r 6), .inl ((kf 6), 24, .inl f_39)), ((r 7), .inl ((kf 7), 24, .inl f_42)), ((r 8), .inl ((kf 8), 8, .inl f_45)), ((r 9), .inl ((kf 9), 8, .inl f_48)), ((r 10), .inl ((kf 10), 8, .inl f_51)), ((r 11), .inl ((kf 11), 8, .inl f_54)), (h0, .inr (12, fsMk r (nI (211 + 1)) 1)), ((r 12), .inl ((kf 12), 300, .inl f_100))] := hD
  subst hw
  have hP : va_P (dC, dI) vwCl [((r 4), .inl ((kf 4), 24, .inl (fun _ => 0))), ((r 0), .inl ((kf 0), 6, .inl f_24)), ((r 1), .inl ((kf 1), 36, .inl f_27)), ((r 2), .inl ((kf 2), 24, .inl f_30)), ((r 3), .inl ((kf 3), 24, .inl f_33)), ((r 5), .inl ((kf 5), 24, .inl f_36)), ((r 6), .inl ((kf 6), 24, .inl f_39)), ((r 7), .inl ((kf 7), 24, .inl f_42)), ((r 8), .inl ((kf 8), 8, .inl f_45)), ((r 9), .inl ((kf 9), 8, .inl f_48)), ((r 10), .inl ((kf 10), 8, .inl f_51)), ((r 11), .inl ((kf 11), 8, .inl f_54)), (h0, .inr (12, fsMk r (nI 212) 1)), ((r 12), .inl ((kf 12), 300, .inl f_100))] H := hP
  have hD : va_D A [((r 4), .inl ((kf 4), 24, .inl (fun _ => 0))), ((r 0), .inl ((kf 0), 6, .inl f_24)), ((r 1), .inl ((kf 1), 36, .inl f_27)), ((r 2), .inl ((kf 2), 24, .inl f_30)), ((r 3), .inl ((kf 3), 24, .inl f_33)), ((r 5), .inl ((kf 5), 24, .inl f_36)), ((r 6), .inl ((kf 6), 24, .inl f_39)), ((r 7), .inl ((kf 7), 24, .inl f_42)), ((r 8), .inl ((kf 8), 8, .inl f_45)), ((r 9), .inl ((kf 9), 8, .inl f_48)), ((r 10), .inl ((kf 10), 8, .inl f_51)), ((r 11), .inl ((kf 11), 8, .inl f_54)), (h0, .inr (12, fsMk r (nI 212) 1)), ((r 12), .inl ((kf 12), 300, .inl f_100))] := hD
  refine lv_iconst (v := 1) hx hb dX12_movesAll_266 (by decide) ?_
  refine lv_icmp_ne (tgt := 274) hx hb dX12_movesAll_267 (by decide) (fun c_102 => ?_) (fun c_102 => absurd c_102 (by decide))
  refine lv_iconst (v := 0) hx hb dX12_movesAll_274 (by decide) ?_
  refine va_zast hx hb hK hP hD hS 0 11 rfl rfl (by unfold vp_in; decide) dX12_movesAll_275 (fun H locs hP hD hS => ?_)
  have hP : va_P (dC, dI) vwCl [((r 4), .inl ((kf 4), 24, .inl (upd (fun _ => 0) (7 : Int32).toNatClampNeg (vp_nar .boolean 0)))), ((r 0), .inl ((kf 0), 6, .inl f_24)), ((r 1), .inl ((kf 1), 36, .inl f_27)), ((r 2), .inl ((kf 2), 24, .inl f_30)), ((r 3), .inl ((kf 3), 24, .inl f_33)), ((r 5), .inl ((kf 5), 24, .inl f_36)), ((r 6), .inl ((kf 6), 24, .inl f_39)), ((r 7), .inl ((kf 7), 24, .inl f_42)), ((r 8), .inl ((kf 8), 8, .inl f_45)), ((r 9), .inl ((kf 9), 8, .inl f_48)), ((r 10), .inl ((kf 10), 8, .inl f_51)), ((r 11), .inl ((kf 11), 8, .inl f_54)), (h0, .inr (12, fsMk r (nI 212) 1)), ((r 12), .inl ((kf 12), 300, .inl f_100))] H := hP
  have hD : va_D A [((r 4), .inl ((kf 4), 24, .inl (upd (fun _ => 0) (7 : Int32).toNatClampNeg (vp_nar .boolean 0)))), ((r 0), .inl ((kf 0), 6, .inl f_24)), ((r 1), .inl ((kf 1), 36, .inl f_27)), ((r 2), .inl ((kf 2), 24, .inl f_30)), ((r 3), .inl ((kf 3), 24, .inl f_33)), ((r 5), .inl ((kf 5), 24, .inl f_36)), ((r 6), .inl ((kf 6), 24, .inl f_39)), ((r 7), .inl ((kf 7), 24, .inl f_42)), ((r 8), .inl ((kf 8), 8, .inl f_45)), ((r 9), .inl ((kf 9), 8, .inl f_48)), ((r 10), .inl ((kf 10), 8, .inl f_51)), ((r 11), .inl ((kf 11), 8, .inl f_54)), (h0, .inr (12, fsMk r (nI 212) 1)), ((r 12), .inl ((kf 12), 300, .inl f_100))] := hD
  rw [gz_upd0z] at hP hD
  refine lv_iinc (v := 8) (lv' := [(2, .int 8), (0, .ref h0), (1, .int 1)]) hx hb dX12_movesAll_276 hl (k := 0) rfl (by decide) (by decide) rfl (fun ls hl => ?_)
  refine lv_goto (tgt := 237) hx hb dX12_movesAll_279 (by decide) ?_
  refine lv_iload_n hx hb dX12_movesAll_237 rfl (lv_at hl 0 rfl) ?_
  refine lv_bipush (v := 24) hx hb dX12_movesAll_238 (by decide) ?_
  refine lv_icmp_ge (tgt := 282) hx hb dX12_movesAll_240 (by decide) (fun c_104 => absurd c_104 (by decide)) (fun c_104 => ?_)
  refine lv_aload_n hx hb dX12_movesAll_243 rfl (lv_at hl 1 rfl) ?_
  refine va_get (D := (dC, dI)) (ci := 12) (v := .ref (r 4)) (C := RX12) (T := TX12) (N := 57) hx hb hts (fun w h => List.mem_cons_of_mem _ (jnGB_X12 w h)) hown hK hP 12 rfl rfl 13 (by decide) (hts _ (List.mem_cons_of_mem _ mGB_43)) (fun _ h9 => h9) rfl dX12_movesAll_244 ?_
  refine lv_iload_n hx hb dX12_movesAll_247 rfl (lv_at hl 0 rfl) ?_
  refine lv_aload_n hx hb dX12_movesAll_248 rfl (lv_at hl 1 rfl) ?_
  refine lv_aload_n hx hb dX12_movesAll_249 rfl (lv_at hl 1 rfl) ?_
  refine va_get (D := (dC, dI)) (ci := 12) (v := .ref (r 4)) (C := RX12) (T := TX12) (N := 57) hx hb hts (fun w h => List.mem_cons_of_mem _ (jnGB_X12 w h)) hown hK hP 12 rfl rfl 13 (by decide) (hts _ (List.mem_cons_of_mem _ mGB_43)) (fun _ h9 => h9) rfl dX12_movesAll_250 ?_
  refine lv_iload_n hx hb dX12_movesAll_253 rfl (lv_at hl 0 rfl) ?_
  refine va_zald hx hb hK hP 0 11 rfl rfl (by unfold vp_in; decide) dX12_movesAll_254 ?_
  refine gz_topi (y := 0) rfl ?_
  refine lv_if_eq (tgt := 262) hx hb dX12_movesAll_255 (by decide) (fun c_105 => ?_) (fun c_105 => absurd (by decide) c_105)
  refine lv_iconst (v := 0) hx hb dX12_movesAll_262 (by decide) ?_
  have hP : va_P (dC, dI) vwCl [((r 4), .inl ((kf 4), 24, .inl (fun _ => 0))), ((r 0), .inl ((kf 0), 6, .inl f_24)), ((r 1), .inl ((kf 1), 36, .inl f_27)), ((r 2), .inl ((kf 2), 24, .inl f_30)), ((r 3), .inl ((kf 3), 24, .inl f_33)), ((r 5), .inl ((kf 5), 24, .inl f_36)), ((r 6), .inl ((kf 6), 24, .inl f_39)), ((r 7), .inl ((kf 7), 24, .inl f_42)), ((r 8), .inl ((kf 8), 8, .inl f_45)), ((r 9), .inl ((kf 9), 8, .inl f_48)), ((r 10), .inl ((kf 10), 8, .inl f_51)), ((r 11), .inl ((kf 11), 8, .inl f_54)), (h0, .inr (12, fsMk r (nI 212) 1)), ((r 12), .inl ((kf 12), 300, .inl f_100))] H := hP
  have hD : va_D A [((r 4), .inl ((kf 4), 24, .inl (fun _ => 0))), ((r 0), .inl ((kf 0), 6, .inl f_24)), ((r 1), .inl ((kf 1), 36, .inl f_27)), ((r 2), .inl ((kf 2), 24, .inl f_30)), ((r 3), .inl ((kf 3), 24, .inl f_33)), ((r 5), .inl ((kf 5), 24, .inl f_36)), ((r 6), .inl ((kf 6), 24, .inl f_39)), ((r 7), .inl ((kf 7), 24, .inl f_42)), ((r 8), .inl ((kf 8), 8, .inl f_45)), ((r 9), .inl ((kf 9), 8, .inl f_48)), ((r 10), .inl ((kf 10), 8, .inl f_51)), ((r 11), .inl ((kf 11), 8, .inl f_54)), (h0, .inr (12, fsMk r (nI 212) 1)), ((r 12), .inl ((kf 12), 300, .inl f_100))] := hD
  have hPc := hP.sub (ws' := [(h0, .inr (12, fsMk r (nI 212) 1)), ((r 12), .inl ((kf 12), 300, .inl f_100))]) [12, 13] rfl
  have hDc := hD.sub (ws' := [(h0, .inr (12, fsMk r (nI 212) 1)), ((r 12), .inl ((kf 12), 300, .inl f_100))]) [12, 13] (by decide) rfl
  have hKc := hK.sub (tys' := [((kf 12), .int)]) [12] rfl
  have hFc := va_free (wc := [(h0, .inr (12, fsMk r (nI 212) 1)), ((r 12), .inl ((kf 12), 300, .inl f_100))]) hD hS hA [12, 13] rfl
  refine va_calli (va_runV (As := [.int 0]) (rest := [.int 8, .ref (r 4)]) ⟨hx, hb, hml, hown, hts⟩ (fX12_moves l dC dI H.size h0 r kf 212 f_100 0 (by decide)) (cwV 1 hts (gz_gV mGB_70 mGB_71 mGB_72 mGB_5 mGB_69 goodGB) rfl rfl rfl (by decide +kernel) ⟨Nat.le_of_ble_eq_true rfl, Nat.le_of_ble_eq_true rfl⟩) ⟨fun a U g mk q => by obtain ⟨q0, q1, qP, qK, qD⟩ := q; exact ⟨q0, q1, qP, va_K.moved (u := U) (U := U.calling g mk a) (Vm.Alike.refl U.vm) qK, qD⟩, va_recv hKc hPc (ci := 12) (q0 := 0) rfl rfl, fun U hU hW => ⟨rfl, by rw [hU], by rw [hU]; exact hPc, va_K.moved hW.alike hKc, hDc.weaken (fun _ _ _ _ => trivial)⟩⟩ rfl rfl hl.1 rfl (lv_room (Nat.le_of_ble_eq_true rfl)) dX12_movesAll_263 ⟨Nat.le_of_ble_eq_true rfl, Nat.le_of_ble_eq_true rfl⟩) hS (fun q _ h => hFc q h) hFc (fun r_107 u t H1 locs ht hvm hw hB hz1 hk1 hS => ?_)
  obtain ⟨f_106, hP1, hK1, hD1⟩ := hB
  rw [ht] at hP1
  have hK1 := va_K.moved hvm.symm hK1
  obtain ⟨hP, hD⟩ := va_join (wr := [((r 4), .inl ((kf 4), 24, .inl (fun _ => 0))), ((r 0), .inl ((kf 0), 6, .inl f_24)), ((r 1), .inl ((kf 1), 36, .inl f_27)), ((r 2), .inl ((kf 2), 24, .inl f_30)), ((r 3), .inl ((kf 3), 24, .inl f_33)), ((r 5), .inl ((kf 5), 24, .inl f_36)), ((r 6), .inl ((kf 6), 24, .inl f_39)), ((r 7), .inl ((kf 7), 24, .inl f_42)), ((r 8), .inl ((kf 8), 8, .inl f_45)), ((r 9), .inl ((kf 9), 8, .inl f_48)), ((r 10), .inl ((kf 10), 8, .inl f_51)), ((r 11), .inl ((kf 11), 8, .inl f_54))]) (w1 := [(h0, .inr (12, fsMk r (nI (212 + 1)) 1)), ((r 12), .inl ((kf 12), 300, .inl f_106))]) hP hD [12, 13] [0, 1, 2, 3, 4, 5, 6, 7, 8, 9, 10, 11] rfl rfl (by decide) (by decide) hk1 hFc hP1 hD1
  generalize H1 = H at hP hS ⊢
  have hP : va_P (dC, dI) vwCl [((r 4), .inl ((kf 4), 24, .inl (fun _ => 0))), ((r 0), .inl ((kf 0), 6, .inl f_24)), ((r 1), .inl ((kf 1), 36, .inl f_27)), ((r 2), .inl ((kf 2), 24, .inl f_30)), ((r 3), .inl ((kf 3), 24, .inl f_33)), ((r 5), .inl ((kf 5), 24, .inl f_36)), ((r 6), .inl ((kf 6), 24, .inl f_39)), ((r 7), .inl ((kf 7), 24, .inl f_42)), ((r 8), .inl ((kf 8), 8, .inl f_45)), ((r 9), .inl ((kf 9), 8, .inl f_48)), ((r 10), .inl ((kf 10), 8, .inl f_51)), ((r 11), .inl ((kf 11), 8, .inl f_54)), (h0, .inr (12, fsMk r (nI (212 + 1)) 1)), ((r 12), .inl ((kf 12), 300, .inl f_106))] H := hP
  have hD : va_D A [((r 4), .inl ((kf 4), 24, .inl (fun _ => 0))), ((r 0), .inl ((kf 0), 6, .inl f_24)), ((r 1), .inl ((kf 1), 36, .inl f_27)), ((r 2), .inl ((kf 2), 24, .inl f_30)), ((r 3), .inl ((kf 3), 24, .inl f_33)), ((r 5), .inl ((kf 5), 24, .inl f_36)), ((r 6), .inl ((kf 6), 24, .inl f_39)), ((r 7), .inl ((kf 7), 24, .inl f_42)), ((r 8), .inl ((kf 8), 8, .inl f_45)), ((r 9), .inl ((kf 9), 8, .inl f_48)), ((r 10), .inl ((kf 10), 8, .inl f_51)), ((r 11), .inl ((kf 11), 8, .inl f_54)), (h0, .inr (12, fsMk r (nI (212 + 1)) 1)), ((r 12), .inl ((kf 12), 300, .inl f_106))] := hD
  subst hw
  have hP : va_P (dC, dI) vwCl [((r 4), .inl ((kf 4), 24, .inl (fun _ => 0))), ((r 0), .inl ((kf 0), 6, .inl f_24)), ((r 1), .inl ((kf 1), 36, .inl f_27)), ((r 2), .inl ((kf 2), 24, .inl f_30)), ((r 3), .inl ((kf 3), 24, .inl f_33)), ((r 5), .inl ((kf 5), 24, .inl f_36)), ((r 6), .inl ((kf 6), 24, .inl f_39)), ((r 7), .inl ((kf 7), 24, .inl f_42)), ((r 8), .inl ((kf 8), 8, .inl f_45)), ((r 9), .inl ((kf 9), 8, .inl f_48)), ((r 10), .inl ((kf 10), 8, .inl f_51)), ((r 11), .inl ((kf 11), 8, .inl f_54)), (h0, .inr (12, fsMk r (nI 213) 1)), ((r 12), .inl ((kf 12), 300, .inl f_106))] H := hP
  have hD : va_D A [((r 4), .inl ((kf 4), 24, .inl (fun _ => 0))), ((r 0), .inl ((kf 0), 6, .inl f_24)), ((r 1), .inl ((kf 1), 36, .inl f_27)), ((r 2), .inl ((kf 2), 24, .inl f_30)), ((r 3), .inl ((kf 3), 24, .inl f_33)), ((r 5), .inl ((kf 5), 24, .inl f_36)), ((r 6), .inl ((kf 6), 24, .inl f_39)), ((r 7), .inl ((kf 7), 24, .inl f_42)), ((r 8), .inl ((kf 8), 8, .inl f_45)), ((r 9), .inl ((kf 9), 8, .inl f_48)), ((r 10), .inl ((kf 10), 8, .inl f_51)), ((r 11), .inl ((kf 11), 8, .inl f_54)), (h0, .inr (12, fsMk r (nI 213) 1)), ((r 12), .inl ((kf 12), 300, .inl f_106))] := hD
  refine lv_iconst (v := 1) hx hb dX12_movesAll_266 (by decide) ?_
  refine lv_icmp_ne (tgt := 274) hx hb dX12_movesAll_267 (by decide) (fun c_108 => ?_) (fun c_108 => absurd c_108 (by decide))
  refine lv_iconst (v := 0) hx hb dX12_movesAll_274 (by decide) ?_
  refine va_zast hx hb hK hP hD hS 0 11 rfl rfl (by unfold vp_in; decide) dX12_movesAll_275 (fun H locs hP hD hS => ?_)
  have hP : va_P (dC, dI) vwCl [((r 4), .inl ((kf 4), 24, .inl (upd (fun _ => 0) (8 : Int32).toNatClampNeg (vp_nar .boolean 0)))), ((r 0), .inl ((kf 0), 6, .inl f_24)), ((r 1), .inl ((kf 1), 36, .inl f_27)), ((r 2), .inl ((kf 2), 24, .inl f_30)), ((r 3), .inl ((kf 3), 24, .inl f_33)), ((r 5), .inl ((kf 5), 24, .inl f_36)), ((r 6), .inl ((kf 6), 24, .inl f_39)), ((r 7), .inl ((kf 7), 24, .inl f_42)), ((r 8), .inl ((kf 8), 8, .inl f_45)), ((r 9), .inl ((kf 9), 8, .inl f_48)), ((r 10), .inl ((kf 10), 8, .inl f_51)), ((r 11), .inl ((kf 11), 8, .inl f_54)), (h0, .inr (12, fsMk r (nI 213) 1)), ((r 12), .inl ((kf 12), 300, .inl f_106))] H := hP
  have hD : va_D A [((r 4), .inl ((kf 4), 24, .inl (upd (fun _ => 0) (8 : Int32).toNatClampNeg (vp_nar .boolean 0)))), ((r 0), .inl ((kf 0), 6, .inl f_24)), ((r 1), .inl ((kf 1), 36, .inl f_27)), ((r 2), .inl ((kf 2), 24, .inl f_30)), ((r 3), .inl ((kf 3), 24, .inl f_33)), ((r 5), .inl ((kf 5), 24, .inl f_36)), ((r 6), .inl ((kf 6), 24, .inl f_39)), ((r 7), .inl ((kf 7), 24, .inl f_42)), ((r 8), .inl ((kf 8), 8, .inl f_45)), ((r 9), .inl ((kf 9), 8, .inl f_48)), ((r 10), .inl ((kf 10), 8, .inl f_51)), ((r 11), .inl ((kf 11), 8, .inl f_54)), (h0, .inr (12, fsMk r (nI 213) 1)), ((r 12), .inl ((kf 12), 300, .inl f_106))] := hD
  rw [gz_upd0z] at hP hD
  refine lv_iinc (v := 9) (lv' := [(2, .int 9), (0, .ref h0), (1, .int 1)]) hx hb dX12_movesAll_276 hl (k := 0) rfl (by decide) (by decide) rfl (fun ls hl => ?_)
  refine lv_goto (tgt := 237) hx hb dX12_movesAll_279 (by decide) ?_
  refine lv_iload_n hx hb dX12_movesAll_237 rfl (lv_at hl 0 rfl) ?_
  refine lv_bipush (v := 24) hx hb dX12_movesAll_238 (by decide) ?_
  refine lv_icmp_ge (tgt := 282) hx hb dX12_movesAll_240 (by decide) (fun c_110 => absurd c_110 (by decide)) (fun c_110 => ?_)
  refine lv_aload_n hx hb dX12_movesAll_243 rfl (lv_at hl 1 rfl) ?_
  refine va_get (D := (dC, dI)) (ci := 12) (v := .ref (r 4)) (C := RX12) (T := TX12) (N := 57) hx hb hts (fun w h => List.mem_cons_of_mem _ (jnGB_X12 w h)) hown hK hP 12 rfl rfl 13 (by decide) (hts _ (List.mem_cons_of_mem _ mGB_43)) (fun _ h9 => h9) rfl dX12_movesAll_244 ?_
  refine lv_iload_n hx hb dX12_movesAll_247 rfl (lv_at hl 0 rfl) ?_
  refine lv_aload_n hx hb dX12_movesAll_248 rfl (lv_at hl 1 rfl) ?_
  refine lv_aload_n hx hb dX12_movesAll_249 rfl (lv_at hl 1 rfl) ?_
  refine va_get (D := (dC, dI)) (ci := 12) (v := .ref (r 4)) (C := RX12) (T := TX12) (N := 57) hx hb hts (fun w h => List.mem_cons_of_mem _ (jnGB_X12 w h)) hown hK hP 12 rfl rfl 13 (by decide) (hts _ (List.mem_cons_of_mem _ mGB_43)) (fun _ h9 => h9) rfl dX12_movesAll_250 ?_
  refine lv_iload_n hx hb dX12_movesAll_253 rfl (lv_at hl 0 rfl) ?_
  refine va_zald hx hb hK hP 0 11 rfl rfl (by unfold vp_in; decide) dX12_movesAll_254 ?_
  refine gz_topi (y := 0) rfl ?_
  refine lv_if_eq (tgt := 262) hx hb dX12_movesAll_255 (by decide) (fun c_111 => ?_) (fun c_111 => absurd (by decide) c_111)
  refine lv_iconst (v := 0) hx hb dX12_movesAll_262 (by decide) ?_
  have hP : va_P (dC, dI) vwCl [((r 4), .inl ((kf 4), 24, .inl (fun _ => 0))), ((r 0), .inl ((kf 0), 6, .inl f_24)), ((r 1), .inl ((kf 1), 36, .inl f_27)), ((r 2), .inl ((kf 2), 24, .inl f_30)), ((r 3), .inl ((kf 3), 24, .inl f_33)), ((r 5), .inl ((kf 5), 24, .inl f_36)), ((r 6), .inl ((kf 6), 24, .inl f_39)), ((r 7), .inl ((kf 7), 24, .inl f_42)), ((r 8), .inl ((kf 8), 8, .inl f_45)), ((r 9), .inl ((kf 9), 8, .inl f_48)), ((r 10), .inl ((kf 10), 8, .inl f_51)), ((r 11), .inl ((kf 11), 8, .inl f_54)), (h0, .inr (12, fsMk r (nI 213) 1)), ((r 12), .inl ((kf 12), 300, .inl f_106))] H := hP
  have hD : va_D A [((r 4), .inl ((kf 4), 24, .inl (fun _ => 0))), ((r 0), .inl ((kf 0), 6, .inl f_24)), ((r 1), .inl ((kf 1), 36, .inl f_27)), ((r 2), .inl ((kf 2), 24, .inl f_30)), ((r 3), .inl ((kf 3), 24, .inl f_33)), ((r 5), .inl ((kf 5), 24, .inl f_36)), ((r 6), .inl ((kf 6), 24, .inl f_39)), ((r 7), .inl ((kf 7), 24, .inl f_42)), ((r 8), .inl ((kf 8), 8, .inl f_45)), ((r 9), .inl ((kf 9), 8, .inl f_48)), ((r 10), .inl ((kf 10), 8, .inl f_51)), ((r 11), .inl ((kf 11), 8, .inl f_54)), (h0, .inr (12, fsMk r (nI 213) 1)), ((r 12), .inl ((kf 12), 300, .inl f_106))] := hD
  have hPc := hP.sub (ws' := [(h0, .inr (12, fsMk r (nI 213) 1)), ((r 12), .inl ((kf 12), 300, .inl f_106))]) [12, 13] rfl
  have hDc := hD.sub (ws' := [(h0, .inr (12, fsMk r (nI 213) 1)), ((r 12), .inl ((kf 12), 300, .inl f_106))]) [12, 13] (by decide) rfl
  have hKc := hK.sub (tys' := [((kf 12), .int)]) [12] rfl
  have hFc := va_free (wc := [(h0, .inr (12, fsMk r (nI 213) 1)), ((r 12), .inl ((kf 12), 300, .inl f_106))]) hD hS hA [12, 13] rfl
  refine va_calli (va_runV (As := [.int 0]) (rest := [.int 9, .ref (r 4)]) ⟨hx, hb, hml, hown, hts⟩ (fX12_moves l dC dI H.size h0 r kf 213 f_106 0 (by decide)) (cwV 1 hts (gz_gV mGB_70 mGB_71 mGB_72 mGB_5 mGB_69 goodGB) rfl rfl rfl (by decide +kernel) ⟨Nat.le_of_ble_eq_true rfl, Nat.le_of_ble_eq_true rfl⟩) ⟨fun a U g mk q => by obtain ⟨q0, q1, qP, qK, qD⟩ := q; exact ⟨q0, q1, qP, va_K.moved (u := U) (U := U.calling g mk a) (Vm.Alike.refl U.vm) qK, qD⟩, va_recv hKc hPc (ci := 12) (q0 := 0) rfl rfl, fun U hU hW => ⟨rfl, by rw [hU], by rw [hU]; exact hPc, va_K.moved hW.alike hKc, hDc.weaken (fun _ _ _ _ => trivial)⟩⟩ rfl rfl hl.1 rfl (lv_room (Nat.le_of_ble_eq_true rfl)) dX12_movesAll_263 ⟨Nat.le_of_ble_eq_true rfl, Nat.le_of_ble_eq_true rfl⟩) hS (fun q _ h => hFc q h) hFc (fun r_113 u t H1 locs ht hvm hw hB hz1 hk1 hS => ?_)
  obtain ⟨f_112, hP1, hK1, hD1⟩ := hB
  rw [ht] at hP1
  have hK1 := va_K.moved hvm.symm hK1
  obtain ⟨hP, hD⟩ := va_join (wr := [((r 4), .inl ((kf 4), 24, .inl (fun _ => 0))), ((r 0), .inl ((kf 0), 6, .inl f_24)), ((r 1), .inl ((kf 1), 36, .inl f_27)), ((r 2), .inl ((kf 2), 24, .inl f_30)), ((r 3), .inl ((kf 3), 24, .inl f_33)), ((r 5), .inl ((kf 5), 24, .inl f_36)), ((r 6), .inl ((kf 6), 24, .inl f_39)), ((r 7), .inl ((kf 7), 24, .inl f_42)), ((r 8), .inl ((kf 8), 8, .inl f_45)), ((r 9), .inl ((kf 9), 8, .inl f_48)), ((r 10), .inl ((kf 10), 8, .inl f_51)), ((r 11), .inl ((kf 11), 8, .inl f_54))]) (w1 := [(h0, .inr (12, fsMk r (nI (213 + 1)) 1)), ((r 12), .inl ((kf 12), 300, .inl f_112))]) hP hD [12, 13] [0, 1, 2, 3, 4, 5, 6, 7, 8, 9, 10, 11] rfl rfl (by decide) (by decide) hk1 hFc hP1 hD1
  generalize H1 = H at hP hS ⊢
  have hP : va_P (dC, dI) vwCl [((r 4), .inl ((kf 4), 24, .inl (fun _ => 0))), ((r 0), .inl ((kf 0), 6, .inl f_24)), ((r 1), .inl ((kf 1), 36, .inl f_27)), ((r 2), .inl ((kf 2), 24, .inl f_30)), ((r 3), .inl ((kf 3), 24, .inl f_33)), ((r 5), .inl ((kf 5), 24, .inl f_36)), ((r 6), .inl ((kf 6), 24, .inl f_39)), ((r 7), .inl ((kf 7), 24, .inl f_42)), ((r 8), .inl ((kf 8), 8, .inl f_45)), ((r 9), .inl ((kf 9), 8, .inl f_48)), ((r 10), .inl ((kf 10), 8, .inl f_51)), ((r 11), .inl ((kf 11), 8, .inl f_54)), (h0, .inr (12, fsMk r (nI (213 + 1)) 1)), ((r 12), .inl ((kf 12), 300, .inl f_112))] H := hP
  have hD : va_D A [((r 4), .inl ((kf 4), 24, .inl (fun _ => 0))), ((r 0), .inl ((kf 0), 6, .inl f_24)), ((r 1), .inl ((kf 1), 36, .inl f_27)), ((r 2), .inl ((kf 2), 24, .inl f_30)), ((r 3), .inl ((kf 3), 24, .inl f_33)), ((r 5), .inl ((kf 5), 24, .inl f_36)), ((r 6), .inl ((kf 6), 24, .inl f_39)), ((r 7), .inl ((kf 7), 24, .inl f_42)), ((r 8), .inl ((kf 8), 8, .inl f_45)), ((r 9), .inl ((kf 9), 8, .inl f_48)), ((r 10), .inl ((kf 10), 8, .inl f_51)), ((r 11), .inl ((kf 11), 8, .inl f_54)), (h0, .inr (12, fsMk r (nI (213 + 1)) 1)), ((r 12), .inl ((kf 12), 300, .inl f_112))] := hD
  subst hw
  have hP : va_P (dC, dI) vwCl [((r 4), .inl ((kf 4), 24, .inl (fun _ => 0))), ((r 0), .inl ((kf 0), 6, .inl f_24)), ((r 1), .inl ((kf 1), 36, .inl f_27)), ((r 2), .inl ((kf 2), 24, .inl f_30)), ((r 3), .inl ((kf 3), 24, .inl f_33)), ((r 5), .inl ((kf 5), 24, .inl f_36)), ((r 6), .inl ((kf 6), 24, .inl f_39)), ((r 7), .inl ((kf 7), 24, .inl f_42)), ((r 8), .inl ((kf 8), 8, .inl f_45)), ((r 9), .inl ((kf 9), 8, .inl f_48)), ((r 10), .inl ((kf 10), 8, .inl f_51)), ((r 11), .inl ((kf 11), 8, .inl f_54)), (h0, .inr (12, fsMk r (nI 214) 1)), ((r 12), .inl ((kf 12), 300, .inl f_112))] H := hP
  have hD : va_D A [((r 4), .inl ((kf 4), 24, .inl (fun _ => 0))), ((r 0), .inl ((kf 0), 6, .inl f_24)), ((r 1), .inl ((kf 1), 36, .inl f_27)), ((r 2), .inl ((kf 2), 24, .inl f_30)), ((r 3), .inl ((kf 3), 24, .inl f_33)), ((r 5), .inl ((kf 5), 24, .inl f_36)), ((r 6), .inl ((kf 6), 24, .inl f_39)), ((r 7), .inl ((kf 7), 24, .inl f_42)), ((r 8), .inl ((kf 8), 8, .inl f_45)), ((r 9), .inl ((kf 9), 8, .inl f_48)), ((r 10), .inl ((kf 10), 8, .inl f_51)), ((r 11), .inl ((kf 11), 8, .inl f_54)), (h0, .inr (12, fsMk r (nI 214) 1)), ((r 12), .inl ((kf 12), 300, .inl f_112))] := hD
  refine lv_iconst (v := 1) hx hb dX12_movesAll_266 (by decide) ?_
  refine lv_icmp_ne (tgt := 274) hx hb dX12_movesAll_267 (by decide) (fun c_114 => ?_) (fun c_114 => absurd c_114 (by decide))
  refine lv_iconst (v := 0) hx hb dX12_movesAll_274 (by decide) ?_
  refine va_zast hx hb hK hP hD hS 0 11 rfl rfl (by unfold vp_in; decide) dX12_movesAll_275 (fun H locs hP hD hS => ?_)
  have hP : va_P (dC, dI) vwCl [((r 4), .inl ((kf 4), 24, .inl (upd (fun _ => 0) (9 : Int32).toNatClampNeg (vp_nar .boolean 0)))), ((r 0), .inl ((kf 0), 6, .inl f_24)), ((r 1), .inl ((kf 1), 36, .inl f_27)), ((r 2), .inl ((kf 2), 24, .inl f_30)), ((r 3), .inl ((kf 3), 24, .inl f_33)), ((r 5), .inl ((kf 5), 24, .inl f_36)), ((r 6), .inl ((kf 6), 24, .inl f_39)), ((r 7), .inl ((kf 7), 24, .inl f_42)), ((r 8), .inl ((kf 8), 8, .inl f_45)), ((r 9), .inl ((kf 9), 8, .inl f_48)), ((r 10), .inl ((kf 10), 8, .inl f_51)), ((r 11), .inl ((kf 11), 8, .inl f_54)), (h0, .inr (12, fsMk r (nI 214) 1)), ((r 12), .inl ((kf 12), 300, .inl f_112))] H := hP
  have hD : va_D A [((r 4), .inl ((kf 4), 24, .inl (upd (fun _ => 0) (9 : Int32).toNatClampNeg (vp_nar .boolean 0)))), ((r 0), .inl ((kf 0), 6, .inl f_24)), ((r 1), .inl ((kf 1), 36, .inl f_27)), ((r 2), .inl ((kf 2), 24, .inl f_30)), ((r 3), .inl ((kf 3), 24, .inl f_33)), ((r 5), .inl ((kf 5), 24, .inl f_36)), ((r 6), .inl ((kf 6), 24, .inl f_39)), ((r 7), .inl ((kf 7), 24, .inl f_42)), ((r 8), .inl ((kf 8), 8, .inl f_45)), ((r 9), .inl ((kf 9), 8, .inl f_48)), ((r 10), .inl ((kf 10), 8, .inl f_51)), ((r 11), .inl ((kf 11), 8, .inl f_54)), (h0, .inr (12, fsMk r (nI 214) 1)), ((r 12), .inl ((kf 12), 300, .inl f_112))] := hD
  rw [gz_upd0z] at hP hD
  refine lv_iinc (v := 10) (lv' := [(2, .int 10), (0, .ref h0), (1, .int 1)]) hx hb dX12_movesAll_276 hl (k := 0) rfl (by decide) (by decide) rfl (fun ls hl => ?_)
  refine lv_goto (tgt := 237) hx hb dX12_movesAll_279 (by decide) ?_
  refine lv_iload_n hx hb dX12_movesAll_237 rfl (lv_at hl 0 rfl) ?_
  refine lv_bipush (v := 24) hx hb dX12_movesAll_238 (by decide) ?_
  refine lv_icmp_ge (tgt := 282) hx hb dX12_movesAll_240 (by decide) (fun c_116 => absurd c_116 (by decide)) (fun c_116 => ?_)
  refine lv_aload_n hx hb dX12_movesAll_243 rfl (lv_at hl 1 rfl) ?_
  refine va_get (D := (dC, dI)) (ci := 12) (v := .ref (r 4)) (C := RX12) (T := TX12) (N := 57) hx hb hts (fun w h => List.mem_cons_of_mem _ (jnGB_X12 w h)) hown hK hP 12 rfl rfl 13 (by decide) (hts _ (List.mem_cons_of_mem _ mGB_43)) (fun _ h9 => h9) rfl dX12_movesAll_244 ?_
  refine lv_iload_n hx hb dX12_movesAll_247 rfl (lv_at hl 0 rfl) ?_
  refine lv_aload_n hx hb dX12_movesAll_248 rfl (lv_at hl 1 rfl) ?_
  refine lv_aload_n hx hb dX12_movesAll_249 rfl (lv_at hl 1 rfl) ?_
  refine va_get (D := (dC, dI)) (ci := 12) (v := .ref (r 4)) (C := RX12) (T := TX12) (N := 57) hx hb hts (fun w h => List.mem_cons_of_mem _ (jnGB_X12 w h)) hown hK hP 12 rfl rfl 13 (by decide) (hts _ (List.mem_cons_of_mem _ mGB_43)) (fun _ h9 => h9) rfl dX12_movesAll_250 ?_
  refine lv_iload_n hx hb dX12_movesAll_253 rfl (lv_at hl 0 rfl) ?_
  refine va_zald hx hb hK hP 0 11 rfl rfl (by unfold vp_in; decide) dX12_movesAll_254 ?_
  refine gz_topi (y := 0) rfl ?_
  refine lv_if_eq (tgt := 262) hx hb dX12_movesAll_255 (by decide) (fun c_117 => ?_) (fun c_117 => absurd (by decide) c_117)
  refine lv_iconst (v := 0) hx hb dX12_movesAll_262 (by decide) ?_
  have hP : va_P (dC, dI) vwCl [((r 4), .inl ((kf 4), 24, .inl (fun _ => 0))), ((r 0), .inl ((kf 0), 6, .inl f_24)), ((r 1), .inl ((kf 1), 36, .inl f_27)), ((r 2), .inl ((kf 2), 24, .inl f_30)), ((r 3), .inl ((kf 3), 24, .inl f_33)), ((r 5), .inl ((kf 5), 24, .inl f_36)), ((r 6), .inl ((kf 6), 24, .inl f_39)), ((r 7), .inl ((kf 7), 24, .inl f_42)), ((r 8), .inl ((kf 8), 8, .inl f_45)), ((r 9), .inl ((kf 9), 8, .inl f_48)), ((r 10), .inl ((kf 10), 8, .inl f_51)), ((r 11), .inl ((kf 11), 8, .inl f_54)), (h0, .inr (12, fsMk r (nI 214) 1)), ((r 12), .inl ((kf 12), 300, .inl f_112))] H := hP
  have hD : va_D A [((r 4), .inl ((kf 4), 24, .inl (fun _ => 0))), ((r 0), .inl ((kf 0), 6, .inl f_24)), ((r 1), .inl ((kf 1), 36, .inl f_27)), ((r 2), .inl ((kf 2), 24, .inl f_30)), ((r 3), .inl ((kf 3), 24, .inl f_33)), ((r 5), .inl ((kf 5), 24, .inl f_36)), ((r 6), .inl ((kf 6), 24, .inl f_39)), ((r 7), .inl ((kf 7), 24, .inl f_42)), ((r 8), .inl ((kf 8), 8, .inl f_45)), ((r 9), .inl ((kf 9), 8, .inl f_48)), ((r 10), .inl ((kf 10), 8, .inl f_51)), ((r 11), .inl ((kf 11), 8, .inl f_54)), (h0, .inr (12, fsMk r (nI 214) 1)), ((r 12), .inl ((kf 12), 300, .inl f_112))] := hD
  have hPc := hP.sub (ws' := [(h0, .inr (12, fsMk r (nI 214) 1)), ((r 12), .inl ((kf 12), 300, .inl f_112))]) [12, 13] rfl
  have hDc := hD.sub (ws' := [(h0, .inr (12, fsMk r (nI 214) 1)), ((r 12), .inl ((kf 12), 300, .inl f_112))]) [12, 13] (by decide) rfl
  have hKc := hK.sub (tys' := [((kf 12), .int)]) [12] rfl
  have hFc := va_free (wc := [(h0, .inr (12, fsMk r (nI 214) 1)), ((r 12), .inl ((kf 12), 300, .inl f_112))]) hD hS hA [12, 13] rfl
  refine va_calli (va_runV (As := [.int 0]) (rest := [.int 10, .ref (r 4)]) ⟨hx, hb, hml, hown, hts⟩ (fX12_moves l dC dI H.size h0 r kf 214 f_112 0 (by decide)) (cwV 1 hts (gz_gV mGB_70 mGB_71 mGB_72 mGB_5 mGB_69 goodGB) rfl rfl rfl (by decide +kernel) ⟨Nat.le_of_ble_eq_true rfl, Nat.le_of_ble_eq_true rfl⟩) ⟨fun a U g mk q => by obtain ⟨q0, q1, qP, qK, qD⟩ := q; exact ⟨q0, q1, qP, va_K.moved (u := U) (U := U.calling g mk a) (Vm.Alike.refl U.vm) qK, qD⟩, va_recv hKc hPc (ci := 12) (q0 := 0) rfl rfl, fun U hU hW => ⟨rfl, by rw [hU], by rw [hU]; exact hPc, va_K.moved hW.alike hKc, hDc.weaken (fun _ _ _ _ => trivial)⟩⟩ rfl rfl hl.1 rfl (lv_room (Nat.le_of_ble_eq_true rfl)) dX12_movesAll_263 ⟨Nat.le_of_ble_eq_true rfl, Nat.le_of_ble_eq_true rfl⟩) hS (fun q _ h => hFc q h) hFc (fun r_119 u t H1 locs ht hvm hw hB hz1 hk1 hS => ?_)
  obtain ⟨f_118, hP1, hK1, hD1⟩ := hB
  rw [ht] at hP1
  have hK1 := va_K.moved hvm.symm hK1
  obtain ⟨hP, hD⟩ := va_join (wr := [((r 4), .inl ((kf 4), 24, .inl (fun _ => 0))), ((r 0), .inl ((kf 0), 6, .inl f_24)), ((r 1), .inl ((kf 1), 36, .inl f_27)), ((r 2), .inl ((kf 2), 24, .inl f_30)), ((r 3), .inl ((kf 3), 24, .inl f_33)), ((r 5), .inl ((kf 5), 24, .inl f_36)), ((r 6), .inl ((kf 6), 24, .inl f_39)), ((r 7), .inl ((kf 7), 24, .inl f_42)), ((r 8), .inl ((kf 8), 8, .inl f_45)), ((r 9), .inl ((kf 9), 8, .inl f_48)), ((r 10), .inl ((kf 10), 8, .inl f_51)), ((r 11), .inl ((kf 11), 8, .inl f_54))]) (w1 := [(h0, .inr (12, fsMk r (nI (214 + 1)) 1)), ((r 12), .inl ((kf 12), 300, .inl f_118))]) hP hD [12, 13] [0, 1, 2, 3, 4, 5, 6, 7, 8, 9, 10, 11] rfl rfl (by decide) (by decide) hk1 hFc hP1 hD1
  generalize H1 = H at hP hS ⊢
  have hP : va_P (dC, dI) vwCl [((r 4), .inl ((kf 4), 24, .inl (fun _ => 0))), ((r 0), .inl ((kf 0), 6, .inl f_24)), ((r 1), .inl ((kf 1), 36, .inl f_27)), ((r 2), .inl ((kf 2), 24, .inl f_30)), ((r 3), .inl ((kf 3), 24, .inl f_33)), ((r 5), .inl ((kf 5), 24, .inl f_36)), ((r 6), .inl ((kf 6), 24, .inl f_39)), ((r 7), .inl ((kf 7), 24, .inl f_42)), ((r 8), .inl ((kf 8), 8, .inl f_45)), ((r 9), .inl ((kf 9), 8, .inl f_48)), ((r 10), .inl ((kf 10), 8, .inl f_51)), ((r 11), .inl ((kf 11), 8, .inl f_54)), (h0, .inr (12, fsMk r (nI (214 + 1)) 1)), ((r 12), .inl ((kf 12), 300, .inl f_118))] H := hP
  have hD : va_D A [((r 4), .inl ((kf 4), 24, .inl (fun _ => 0))), ((r 0), .inl ((kf 0), 6, .inl f_24)), ((r 1), .inl ((kf 1), 36, .inl f_27)), ((r 2), .inl ((kf 2), 24, .inl f_30)), ((r 3), .inl ((kf 3), 24, .inl f_33)), ((r 5), .inl ((kf 5), 24, .inl f_36)), ((r 6), .inl ((kf 6), 24, .inl f_39)), ((r 7), .inl ((kf 7), 24, .inl f_42)), ((r 8), .inl ((kf 8), 8, .inl f_45)), ((r 9), .inl ((kf 9), 8, .inl f_48)), ((r 10), .inl ((kf 10), 8, .inl f_51)), ((r 11), .inl ((kf 11), 8, .inl f_54)), (h0, .inr (12, fsMk r (nI (214 + 1)) 1)), ((r 12), .inl ((kf 12), 300, .inl f_118))] := hD
  subst hw
  have hP : va_P (dC, dI) vwCl [((r 4), .inl ((kf 4), 24, .inl (fun _ => 0))), ((r 0), .inl ((kf 0), 6, .inl f_24)), ((r 1), .inl ((kf 1), 36, .inl f_27)), ((r 2), .inl ((kf 2), 24, .inl f_30)), ((r 3), .inl ((kf 3), 24, .inl f_33)), ((r 5), .inl ((kf 5), 24, .inl f_36)), ((r 6), .inl ((kf 6), 24, .inl f_39)), ((r 7), .inl ((kf 7), 24, .inl f_42)), ((r 8), .inl ((kf 8), 8, .inl f_45)), ((r 9), .inl ((kf 9), 8, .inl f_48)), ((r 10), .inl ((kf 10), 8, .inl f_51)), ((r 11), .inl ((kf 11), 8, .inl f_54)), (h0, .inr (12, fsMk r (nI 215) 1)), ((r 12), .inl ((kf 12), 300, .inl f_118))] H := hP
  have hD : va_D A [((r 4), .inl ((kf 4), 24, .inl (fun _ => 0))), ((r 0), .inl ((kf 0), 6, .inl f_24)), ((r 1), .inl ((kf 1), 36, .inl f_27)), ((r 2), .inl ((kf 2), 24, .inl f_30)), ((r 3), .inl ((kf 3), 24, .inl f_33)), ((r 5), .inl ((kf 5), 24, .inl f_36)), ((r 6), .inl ((kf 6), 24, .inl f_39)), ((r 7), .inl ((kf 7), 24, .inl f_42)), ((r 8), .inl ((kf 8), 8, .inl f_45)), ((r 9), .inl ((kf 9), 8, .inl f_48)), ((r 10), .inl ((kf 10), 8, .inl f_51)), ((r 11), .inl ((kf 11), 8, .inl f_54)), (h0, .inr (12, fsMk r (nI 215) 1)), ((r 12), .inl ((kf 12), 300, .inl f_118))] := hD
  refine lv_iconst (v := 1) hx hb dX12_movesAll_266 (by decide) ?_
  refine lv_icmp_ne (tgt := 274) hx hb dX12_movesAll_267 (by decide) (fun c_120 => ?_) (fun c_120 => absurd c_120 (by decide))
  refine lv_iconst (v := 0) hx hb dX12_movesAll_274 (by decide) ?_
  refine va_zast hx hb hK hP hD hS 0 11 rfl rfl (by unfold vp_in; decide) dX12_movesAll_275 (fun H locs hP hD hS => ?_)
  have hP : va_P (dC, dI) vwCl [((r 4), .inl ((kf 4), 24, .inl (upd (fun _ => 0) (10 : Int32).toNatClampNeg (vp_nar .boolean 0)))), ((r 0), .inl ((kf 0), 6, .inl f_24)), ((r 1), .inl ((kf 1), 36, .inl f_27)), ((r 2), .inl ((kf 2), 24, .inl f_30)), ((r 3), .inl ((kf 3), 24, .inl f_33)), ((r 5), .inl ((kf 5), 24, .inl f_36)), ((r 6), .inl ((kf 6), 24, .inl f_39)), ((r 7), .inl ((kf 7), 24, .inl f_42)), ((r 8), .inl ((kf 8), 8, .inl f_45)), ((r 9), .inl ((kf 9), 8, .inl f_48)), ((r 10), .inl ((kf 10), 8, .inl f_51)), ((r 11), .inl ((kf 11), 8, .inl f_54)), (h0, .inr (12, fsMk r (nI 215) 1)), ((r 12), .inl ((kf 12), 300, .inl f_118))] H := hP
  have hD : va_D A [((r 4), .inl ((kf 4), 24, .inl (upd (fun _ => 0) (10 : Int32).toNatClampNeg (vp_nar .boolean 0)))), ((r 0), .inl ((kf 0), 6, .inl f_24)), ((r 1), .inl ((kf 1), 36, .inl f_27)), ((r 2), .inl ((kf 2), 24, .inl f_30)), ((r 3), .inl ((kf 3), 24, .inl f_33)), ((r 5), .inl ((kf 5), 24, .inl f_36)), ((r 6), .inl ((kf 6), 24, .inl f_39)), ((r 7), .inl ((kf 7), 24, .inl f_42)), ((r 8), .inl ((kf 8), 8, .inl f_45)), ((r 9), .inl ((kf 9), 8, .inl f_48)), ((r 10), .inl ((kf 10), 8, .inl f_51)), ((r 11), .inl ((kf 11), 8, .inl f_54)), (h0, .inr (12, fsMk r (nI 215) 1)), ((r 12), .inl ((kf 12), 300, .inl f_118))] := hD
  rw [gz_upd0z] at hP hD
  refine lv_iinc (v := 11) (lv' := [(2, .int 11), (0, .ref h0), (1, .int 1)]) hx hb dX12_movesAll_276 hl (k := 0) rfl (by decide) (by decide) rfl (fun ls hl => ?_)
  refine lv_goto (tgt := 237) hx hb dX12_movesAll_279 (by decide) ?_
  refine lv_iload_n hx hb dX12_movesAll_237 rfl (lv_at hl 0 rfl) ?_
  refine lv_bipush (v := 24) hx hb dX12_movesAll_238 (by decide) ?_
  refine lv_icmp_ge (tgt := 282) hx hb dX12_movesAll_240 (by decide) (fun c_122 => absurd c_122 (by decide)) (fun c_122 => ?_)
  refine lv_aload_n hx hb dX12_movesAll_243 rfl (lv_at hl 1 rfl) ?_
  refine va_get (D := (dC, dI)) (ci := 12) (v := .ref (r 4)) (C := RX12) (T := TX12) (N := 57) hx hb hts (fun w h => List.mem_cons_of_mem _ (jnGB_X12 w h)) hown hK hP 12 rfl rfl 13 (by decide) (hts _ (List.mem_cons_of_mem _ mGB_43)) (fun _ h9 => h9) rfl dX12_movesAll_244 ?_
  refine lv_iload_n hx hb dX12_movesAll_247 rfl (lv_at hl 0 rfl) ?_
  refine lv_aload_n hx hb dX12_movesAll_248 rfl (lv_at hl 1 rfl) ?_
  refine lv_aload_n hx hb dX12_movesAll_249 rfl (lv_at hl 1 rfl) ?_
  refine va_get (D := (dC, dI)) (ci := 12) (v := .ref (r 4)) (C := RX12) (T := TX12) (N := 57) hx hb hts (fun w h => List.mem_cons_of_mem _ (jnGB_X12 w h)) hown hK hP 12 rfl rfl 13 (by decide) (hts _ (List.mem_cons_of_mem _ mGB_43)) (fun _ h9 => h9) rfl dX12_movesAll_250 ?_
  refine lv_iload_n hx hb dX12_movesAll_253 rfl (lv_at hl 0 rfl) ?_
  refine va_zald hx hb hK hP 0 11 rfl rfl (by unfold vp_in; decide) dX12_movesAll_254 ?_
  refine gz_topi (y := 0) rfl ?_
  refine lv_if_eq (tgt := 262) hx hb dX12_movesAll_255 (by decide) (fun c_123 => ?_) (fun c_123 => absurd (by decide) c_123)
  refine lv_iconst (v := 0) hx hb dX12_movesAll_262 (by decide) ?_
  have hP : va_P (dC, dI) vwCl [((r 4), .inl ((kf 4), 24, .inl (fun _ => 0))), ((r 0), .inl ((kf 0), 6, .inl f_24)), ((r 1), .inl ((kf 1), 36, .inl f_27)), ((r 2), .inl ((kf 2), 24, .inl f_30)), ((r 3), .inl ((kf 3), 24, .inl f_33)), ((r 5), .inl ((kf 5), 24, .inl f_36)), ((r 6), .inl ((kf 6), 24, .inl f_39)), ((r 7), .inl ((kf 7), 24, .inl f_42)), ((r 8), .inl ((kf 8), 8, .inl f_45)), ((r 9), .inl ((kf 9), 8, .inl f_48)), ((r 10), .inl ((kf 10), 8, .inl f_51)), ((r 11), .inl ((kf 11), 8, .inl f_54)), (h0, .inr (12, fsMk r (nI 215) 1)), ((r 12), .inl ((kf 12), 300, .inl f_118))] H := hP
  have hD : va_D A [((r 4), .inl ((kf 4), 24, .inl (fun _ => 0))), ((r 0), .inl ((kf 0), 6, .inl f_24)), ((r 1), .inl ((kf 1), 36, .inl f_27)), ((r 2), .inl ((kf 2), 24, .inl f_30)), ((r 3), .inl ((kf 3), 24, .inl f_33)), ((r 5), .inl ((kf 5), 24, .inl f_36)), ((r 6), .inl ((kf 6), 24, .inl f_39)), ((r 7), .inl ((kf 7), 24, .inl f_42)), ((r 8), .inl ((kf 8), 8, .inl f_45)), ((r 9), .inl ((kf 9), 8, .inl f_48)), ((r 10), .inl ((kf 10), 8, .inl f_51)), ((r 11), .inl ((kf 11), 8, .inl f_54)), (h0, .inr (12, fsMk r (nI 215) 1)), ((r 12), .inl ((kf 12), 300, .inl f_118))] := hD
  have hPc := hP.sub (ws' := [(h0, .inr (12, fsMk r (nI 215) 1)), ((r 12), .inl ((kf 12), 300, .inl f_118))]) [12, 13] rfl
  have hDc := hD.sub (ws' := [(h0, .inr (12, fsMk r (nI 215) 1)), ((r 12), .inl ((kf 12), 300, .inl f_118))]) [12, 13] (by decide) rfl
  have hKc := hK.sub (tys' := [((kf 12), .int)]) [12] rfl
  have hFc := va_free (wc := [(h0, .inr (12, fsMk r (nI 215) 1)), ((r 12), .inl ((kf 12), 300, .inl f_118))]) hD hS hA [12, 13] rfl
  refine va_calli (va_runV (As := [.int 0]) (rest := [.int 11, .ref (r 4)]) ⟨hx, hb, hml, hown, hts⟩ (fX12_moves l dC dI H.size h0 r kf 215 f_118 0 (by decide)) (cwV 1 hts (gz_gV mGB_70 mGB_71 mGB_72 mGB_5 mGB_69 goodGB) rfl rfl rfl (by decide +kernel) ⟨Nat.le_of_ble_eq_true rfl, Nat.le_of_ble_eq_true rfl⟩) ⟨fun a U g mk q => by obtain ⟨q0, q1, qP, qK, qD⟩ := q; exact ⟨q0, q1, qP, va_K.moved (u := U) (U := U.calling g mk a) (Vm.Alike.refl U.vm) qK, qD⟩, va_recv hKc hPc (ci := 12) (q0 := 0) rfl rfl, fun U hU hW => ⟨rfl, by rw [hU], by rw [hU]; exact hPc, va_K.moved hW.alike hKc, hDc.weaken (fun _ _ _ _ => trivial)⟩⟩ rfl rfl hl.1 rfl (lv_room (Nat.le_of_ble_eq_true rfl)) dX12_movesAll_263 ⟨Nat.le_of_ble_eq_true rfl, Nat.le_of_ble_eq_true rfl⟩) hS (fun q _ h => hFc q h) hFc (fun r_125 u t H1 locs ht hvm hw hB hz1 hk1 hS => ?_)
  obtain ⟨f_124, hP1, hK1, hD1⟩ := hB
  rw [ht] at hP1
  have hK1 := va_K.moved hvm.symm hK1
  obtain ⟨hP, hD⟩ := va_join (wr := [((r 4), .inl ((kf 4), 24, .inl (fun _ => 0))), ((r 0), .inl ((kf 0), 6, .inl f_24)), ((r 1), .inl ((kf 1), 36, .inl f_27)), ((r 2), .inl ((kf 2), 24, .inl f_30)), ((r 3), .inl ((kf 3), 24, .inl f_33)), ((r 5), .inl ((kf 5), 24, .inl f_36)), ((r 6), .inl ((kf 6), 24, .inl f_39)), ((r 7), .inl ((kf 7), 24, .inl f_42)), ((r 8), .inl ((kf 8), 8, .inl f_45)), ((r 9), .inl ((kf 9), 8, .inl f_48)), ((r 10), .inl ((kf 10), 8, .inl f_51)), ((r 11), .inl ((kf 11), 8, .inl f_54))]) (w1 := [(h0, .inr (12, fsMk r (nI (215 + 1)) 1)), ((r 12), .inl ((kf 12), 300, .inl f_124))]) hP hD [12, 13] [0, 1, 2, 3, 4, 5, 6, 7, 8, 9, 10, 11] rfl rfl (by decide) (by decide) hk1 hFc hP1 hD1
  generalize H1 = H at hP hS ⊢
  have hP : va_P (dC, dI) vwCl [((r 4), .inl ((kf 4), 24, .inl (fun _ => 0))), ((r 0), .inl ((kf 0), 6, .inl f_24)), ((r 1), .inl ((kf 1), 36, .inl f_27)), ((r 2), .inl ((kf 2), 24, .inl f_30)), ((r 3), .inl ((kf 3), 24, .inl f_33)), ((r 5), .inl ((kf 5), 24, .inl f_36)), ((r 6), .inl ((kf 6), 24, .inl f_39)), ((r 7), .inl ((kf 7), 24, .inl f_42)), ((r 8), .inl ((kf 8), 8, .inl f_45)), ((r 9), .inl ((kf 9), 8, .inl f_48)), ((r 10), .inl ((kf 10), 8, .inl f_51)), ((r 11), .inl ((kf 11), 8, .inl f_54)), (h0, .inr (12, fsMk r (nI (215 + 1)) 1)), ((r 12), .inl ((kf 12), 300, .inl f_124))] H := hP
  have hD : va_D A [((r 4), .inl ((kf 4), 24, .inl (fun _ => 0))), ((r 0), .inl ((kf 0), 6, .inl f_24)), ((r 1), .inl ((kf 1), 36, .inl f_27)), ((r 2), .inl ((kf 2), 24, .inl f_30)), ((r 3), .inl ((kf 3), 24, .inl f_33)), ((r 5), .inl ((kf 5), 24, .inl f_36)), ((r 6), .inl ((kf 6), 24, .inl f_39)), ((r 7), .inl ((kf 7), 24, .inl f_42)), ((r 8), .inl ((kf 8), 8, .inl f_45)), ((r 9), .inl ((kf 9), 8, .inl f_48)), ((r 10), .inl ((kf 10), 8, .inl f_51)), ((r 11), .inl ((kf 11), 8, .inl f_54)), (h0, .inr (12, fsMk r (nI (215 + 1)) 1)), ((r 12), .inl ((kf 12), 300, .inl f_124))] := hD
  subst hw
  have hP : va_P (dC, dI) vwCl [((r 4), .inl ((kf 4), 24, .inl (fun _ => 0))), ((r 0), .inl ((kf 0), 6, .inl f_24)), ((r 1), .inl ((kf 1), 36, .inl f_27)), ((r 2), .inl ((kf 2), 24, .inl f_30)), ((r 3), .inl ((kf 3), 24, .inl f_33)), ((r 5), .inl ((kf 5), 24, .inl f_36)), ((r 6), .inl ((kf 6), 24, .inl f_39)), ((r 7), .inl ((kf 7), 24, .inl f_42)), ((r 8), .inl ((kf 8), 8, .inl f_45)), ((r 9), .inl ((kf 9), 8, .inl f_48)), ((r 10), .inl ((kf 10), 8, .inl f_51)), ((r 11), .inl ((kf 11), 8, .inl f_54)), (h0, .inr (12, fsMk r (nI 216) 1)), ((r 12), .inl ((kf 12), 300, .inl f_124))] H := hP
  have hD : va_D A [((r 4), .inl ((kf 4), 24, .inl (fun _ => 0))), ((r 0), .inl ((kf 0), 6, .inl f_24)), ((r 1), .inl ((kf 1), 36, .inl f_27)), ((r 2), .inl ((kf 2), 24, .inl f_30)), ((r 3), .inl ((kf 3), 24, .inl f_33)), ((r 5), .inl ((kf 5), 24, .inl f_36)), ((r 6), .inl ((kf 6), 24, .inl f_39)), ((r 7), .inl ((kf 7), 24, .inl f_42)), ((r 8), .inl ((kf 8), 8, .inl f_45)), ((r 9), .inl ((kf 9), 8, .inl f_48)), ((r 10), .inl ((kf 10), 8, .inl f_51)), ((r 11), .inl ((kf 11), 8, .inl f_54)), (h0, .inr (12, fsMk r (nI 216) 1)), ((r 12), .inl ((kf 12), 300, .inl f_124))] := hD
  refine lv_iconst (v := 1) hx hb dX12_movesAll_266 (by decide) ?_
  refine lv_icmp_ne (tgt := 274) hx hb dX12_movesAll_267 (by decide) (fun c_126 => ?_) (fun c_126 => absurd c_126 (by decide))
  refine lv_iconst (v := 0) hx hb dX12_movesAll_274 (by decide) ?_
  refine va_zast hx hb hK hP hD hS 0 11 rfl rfl (by unfold vp_in; decide) dX12_movesAll_275 (fun H locs hP hD hS => ?_)
  have hP : va_P (dC, dI) vwCl [((r 4), .inl ((kf 4), 24, .inl (upd (fun _ => 0) (11 : Int32).toNatClampNeg (vp_nar .boolean 0)))), ((r 0), .inl ((kf 0), 6, .inl f_24)), ((r 1), .inl ((kf 1), 36, .inl f_27)), ((r 2), .inl ((kf 2), 24, .inl f_30)), ((r 3), .inl ((kf 3), 24, .inl f_33)), ((r 5), .inl ((kf 5), 24, .inl f_36)), ((r 6), .inl ((kf 6), 24, .inl f_39)), ((r 7), .inl ((kf 7), 24, .inl f_42)), ((r 8), .inl ((kf 8), 8, .inl f_45)), ((r 9), .inl ((kf 9), 8, .inl f_48)), ((r 10), .inl ((kf 10), 8, .inl f_51)), ((r 11), .inl ((kf 11), 8, .inl f_54)), (h0, .inr (12, fsMk r (nI 216) 1)), ((r 12), .inl ((kf 12), 300, .inl f_124))] H := hP
  have hD : va_D A [((r 4), .inl ((kf 4), 24, .inl (upd (fun _ => 0) (11 : Int32).toNatClampNeg (vp_nar .boolean 0)))), ((r 0), .inl ((kf 0), 6, .inl f_24)), ((r 1), .inl ((kf 1), 36, .inl f_27)), ((r 2), .inl ((kf 2), 24, .inl f_30)), ((r 3), .inl ((kf 3), 24, .inl f_33)), ((r 5), .inl ((kf 5), 24, .inl f_36)), ((r 6), .inl ((kf 6), 24, .inl f_39)), ((r 7), .inl ((kf 7), 24, .inl f_42)), ((r 8), .inl ((kf 8), 8, .inl f_45)), ((r 9), .inl ((kf 9), 8, .inl f_48)), ((r 10), .inl ((kf 10), 8, .inl f_51)), ((r 11), .inl ((kf 11), 8, .inl f_54)), (h0, .inr (12, fsMk r (nI 216) 1)), ((r 12), .inl ((kf 12), 300, .inl f_124))] := hD
  rw [gz_upd0z] at hP hD
  refine lv_iinc (v := 12) (lv' := [(2, .int 12), (0, .ref h0), (1, .int 1)]) hx hb dX12_movesAll_276 hl (k := 0) rfl (by decide) (by decide) rfl (fun ls hl => ?_)
  refine lv_goto (tgt := 237) hx hb dX12_movesAll_279 (by decide) ?_
  refine lv_iload_n hx hb dX12_movesAll_237 rfl (lv_at hl 0 rfl) ?_
  refine lv_bipush (v := 24) hx hb dX12_movesAll_238 (by decide) ?_
  refine lv_icmp_ge (tgt := 282) hx hb dX12_movesAll_240 (by decide) (fun c_128 => absurd c_128 (by decide)) (fun c_128 => ?_)
  refine lv_aload_n hx hb dX12_movesAll_243 rfl (lv_at hl 1 rfl) ?_
  refine va_get (D := (dC, dI)) (ci := 12) (v := .ref (r 4)) (C := RX12) (T := TX12) (N := 57) hx hb hts (fun w h => List.mem_cons_of_mem _ (jnGB_X12 w h)) hown hK hP 12 rfl rfl 13 (by decide) (hts _ (List.mem_cons_of_mem _ mGB_43)) (fun _ h9 => h9) rfl dX12_movesAll_244 ?_
  refine lv_iload_n hx hb dX12_movesAll_247 rfl (lv_at hl 0 rfl) ?_
  refine lv_aload_n hx hb dX12_movesAll_248 rfl (lv_at hl 1 rfl) ?_
  refine lv_aload_n hx hb dX12_movesAll_249 rfl (lv_at hl 1 rfl) ?_
  refine va_get (D := (dC, dI)) (ci := 12) (v := .ref (r 4)) (C := RX12) (T := TX12) (N := 57) hx hb hts (fun w h => List.mem_cons_of_mem _ (jnGB_X12 w h)) hown hK hP 12 rfl rfl 13 (by decide) (hts _ (List.mem_cons_of_mem _ mGB_43)) (fun _ h9 => h9) rfl dX12_movesAll_250 ?_
  refine lv_iload_n hx hb dX12_movesAll_253 rfl (lv_at hl 0 rfl) ?_
  refine va_zald hx hb hK hP 0 11 rfl rfl (by unfold vp_in; decide) dX12_movesAll_254 ?_
  refine gz_topi (y := 0) rfl ?_
  refine lv_if_eq (tgt := 262) hx hb dX12_movesAll_255 (by decide) (fun c_129 => ?_) (fun c_129 => absurd (by decide) c_129)
  refine lv_iconst (v := 0) hx hb dX12_movesAll_262 (by decide) ?_
  have hP : va_P (dC, dI) vwCl [((r 4), .inl ((kf 4), 24, .inl (fun _ => 0))), ((r 0), .inl ((kf 0), 6, .inl f_24)), ((r 1), .inl ((kf 1), 36, .inl f_27)), ((r 2), .inl ((kf 2), 24, .inl f_30)), ((r 3), .inl ((kf 3), 24, .inl f_33)), ((r 5), .inl ((kf 5), 24, .inl f_36)), ((r 6), .inl ((kf 6), 24, .inl f_39)), ((r 7), .inl ((kf 7), 24, .inl f_42)), ((r 8), .inl ((kf 8), 8, .inl f_45)), ((r 9), .inl ((kf 9), 8, .inl f_48)), ((r 10), .inl ((kf 10), 8, .inl f_51)), ((r 11), .inl ((kf 11), 8, .inl f_54)), (h0, .inr (12, fsMk r (nI 216) 1)), ((r 12), .inl ((kf 12), 300, .inl f_124))] H := hP
  have hD : va_D A [((r 4), .inl ((kf 4), 24, .inl (fun _ => 0))), ((r 0), .inl ((kf 0), 6, .inl f_24)), ((r 1), .inl ((kf 1), 36, .inl f_27)), ((r 2), .inl ((kf 2), 24, .inl f_30)), ((r 3), .inl ((kf 3), 24, .inl f_33)), ((r 5), .inl ((kf 5), 24, .inl f_36)), ((r 6), .inl ((kf 6), 24, .inl f_39)), ((r 7), .inl ((kf 7), 24, .inl f_42)), ((r 8), .inl ((kf 8), 8, .inl f_45)), ((r 9), .inl ((kf 9), 8, .inl f_48)), ((r 10), .inl ((kf 10), 8, .inl f_51)), ((r 11), .inl ((kf 11), 8, .inl f_54)), (h0, .inr (12, fsMk r (nI 216) 1)), ((r 12), .inl ((kf 12), 300, .inl f_124))] := hD
  have hPc := hP.sub (ws' := [(h0, .inr (12, fsMk r (nI 216) 1)), ((r 12), .inl ((kf 12), 300, .inl f_124))]) [12, 13] rfl
  have hDc := hD.sub (ws' := [(h0, .inr (12, fsMk r (nI 216) 1)), ((r 12), .inl ((kf 12), 300, .inl f_124))]) [12, 13] (by decide) rfl
  have hKc := hK.sub (tys' := [((kf 12), .int)]) [12] rfl
  have hFc := va_free (wc := [(h0, .inr (12, fsMk r (nI 216) 1)), ((r 12), .inl ((kf 12), 300, .inl f_124))]) hD hS hA [12, 13] rfl
  refine va_calli (va_runV (As := [.int 0]) (rest := [.int 12, .ref (r 4)]) ⟨hx, hb, hml, hown, hts⟩ (fX12_moves l dC dI H.size h0 r kf 216 f_124 0 (by decide)) (cwV 1 hts (gz_gV mGB_70 mGB_71 mGB_72 mGB_5 mGB_69 goodGB) rfl rfl rfl (by decide +kernel) ⟨Nat.le_of_ble_eq_true rfl, Nat.le_of_ble_eq_true rfl⟩) ⟨fun a U g mk q => by obtain ⟨q0, q1, qP, qK, qD⟩ := q; exact ⟨q0, q1, qP, va_K.moved (u := U) (U := U.calling g mk a) (Vm.Alike.refl U.vm) qK, qD⟩, va_recv hKc hPc (ci := 12) (q0 := 0) rfl rfl, fun U hU hW => ⟨rfl, by rw [hU], by rw [hU]; exact hPc, va_K.moved hW.alike hKc, hDc.weaken (fun _ _ _ _ => trivial)⟩⟩ rfl rfl hl.1 rfl (lv_room (Nat.le_of_ble_eq_true rfl)) dX12_movesAll_263 ⟨Nat.le_of_ble_eq_true rfl, Nat.le_of_ble_eq_true rfl⟩) hS (fun q _ h => hFc q h) hFc (fun r_131 u t H1 locs ht hvm hw hB hz1 hk1 hS => ?_)
  obtain ⟨f_130, hP1, hK1, hD1⟩ := hB
  rw [ht] at hP1
  have hK1 := va_K.moved hvm.symm hK1
  obtain ⟨hP, hD⟩ := va_join (wr := [((r 4), .inl ((kf 4), 24, .inl (fun _ => 0))), ((r 0), .inl ((kf 0), 6, .inl f_24)), ((r 1), .inl ((kf 1), 36, .inl f_27)), ((r 2), .inl ((kf 2), 24, .inl f_30)), ((r 3), .inl ((kf 3), 24, .inl f_33)), ((r 5), .inl ((kf 5), 24, .inl f_36)), ((r 6), .inl ((kf 6), 24, .inl f_39)), ((r 7), .inl ((kf 7), 24, .inl f_42)), ((r 8), .inl ((kf 8), 8, .inl f_45)), ((r 9), .inl ((kf 9), 8, .inl f_48)), ((r 10), .inl ((kf 10), 8, .inl f_51)), ((r 11), .inl ((kf 11), 8, .inl f_54))]) (w1 := [(h0, .inr (12, fsMk r (nI (216 + 1)) 1)), ((r 12), .inl ((kf 12), 300, .inl f_130))]) hP hD [12, 13] [0, 1, 2, 3, 4, 5, 6, 7, 8, 9, 10, 11] rfl rfl (by decide) (by decide) hk1 hFc hP1 hD1
  generalize H1 = H at hP hS ⊢
  have hP : va_P (dC, dI) vwCl [((r 4), .inl ((kf 4), 24, .inl (fun _ => 0))), ((r 0), .inl ((kf 0), 6, .inl f_24)), ((r 1), .inl ((kf 1), 36, .inl f_27)), ((r 2), .inl ((kf 2), 24, .inl f_30)), ((r 3), .inl ((kf 3), 24, .inl f_33)), ((r 5), .inl ((kf 5), 24, .inl f_36)), ((r 6), .inl ((kf 6), 24, .inl f_39)), ((r 7), .inl ((kf 7), 24, .inl f_42)), ((r 8), .inl ((kf 8), 8, .inl f_45)), ((r 9), .inl ((kf 9), 8, .inl f_48)), ((r 10), .inl ((kf 10), 8, .inl f_51)), ((r 11), .inl ((kf 11), 8, .inl f_54)), (h0, .inr (12, fsMk r (nI (216 + 1)) 1)), ((r 12), .inl ((kf 12), 300, .inl f_130))] H := hP
  have hD : va_D A [((r 4), .inl ((kf 4), 24, .inl (fun _ => 0))), ((r 0), .inl ((kf 0), 6, .inl f_24)), ((r 1), .inl ((kf 1), 36, .inl f_27)), ((r 2), .inl ((kf 2), 24, .inl f_30)), ((r 3), .inl ((kf 3), 24, .inl f_33)), ((r 5), .inl ((kf 5), 24, .inl f_36)), ((r 6), .inl ((kf 6), 24, .inl f_39)), ((r 7), .inl ((kf 7), 24, .inl f_42)), ((r 8), .inl ((kf 8), 8, .inl f_45)), ((r 9), .inl ((kf 9), 8, .inl f_48)), ((r 10), .inl ((kf 10), 8, .inl f_51)), ((r 11), .inl ((kf 11), 8, .inl f_54)), (h0, .inr (12, fsMk r (nI (216 + 1)) 1)), ((r 12), .inl ((kf 12), 300, .inl f_130))] := hD
  subst hw
  have hP : va_P (dC, dI) vwCl [((r 4), .inl ((kf 4), 24, .inl (fun _ => 0))), ((r 0), .inl ((kf 0), 6, .inl f_24)), ((r 1), .inl ((kf 1), 36, .inl f_27)), ((r 2), .inl ((kf 2), 24, .inl f_30)), ((r 3), .inl ((kf 3), 24, .inl f_33)), ((r 5), .inl ((kf 5), 24, .inl f_36)), ((r 6), .inl ((kf 6), 24, .inl f_39)), ((r 7), .inl ((kf 7), 24, .inl f_42)), ((r 8), .inl ((kf 8), 8, .inl f_45)), ((r 9), .inl ((kf 9), 8, .inl f_48)), ((r 10), .inl ((kf 10), 8, .inl f_51)), ((r 11), .inl ((kf 11), 8, .inl f_54)), (h0, .inr (12, fsMk r (nI 217) 1)), ((r 12), .inl ((kf 12), 300, .inl f_130))] H := hP
  have hD : va_D A [((r 4), .inl ((kf 4), 24, .inl (fun _ => 0))), ((r 0), .inl ((kf 0), 6, .inl f_24)), ((r 1), .inl ((kf 1), 36, .inl f_27)), ((r 2), .inl ((kf 2), 24, .inl f_30)), ((r 3), .inl ((kf 3), 24, .inl f_33)), ((r 5), .inl ((kf 5), 24, .inl f_36)), ((r 6), .inl ((kf 6), 24, .inl f_39)), ((r 7), .inl ((kf 7), 24, .inl f_42)), ((r 8), .inl ((kf 8), 8, .inl f_45)), ((r 9), .inl ((kf 9), 8, .inl f_48)), ((r 10), .inl ((kf 10), 8, .inl f_51)), ((r 11), .inl ((kf 11), 8, .inl f_54)), (h0, .inr (12, fsMk r (nI 217) 1)), ((r 12), .inl ((kf 12), 300, .inl f_130))] := hD
  refine lv_iconst (v := 1) hx hb dX12_movesAll_266 (by decide) ?_
  refine lv_icmp_ne (tgt := 274) hx hb dX12_movesAll_267 (by decide) (fun c_132 => ?_) (fun c_132 => absurd c_132 (by decide))
  refine lv_iconst (v := 0) hx hb dX12_movesAll_274 (by decide) ?_
  refine va_zast hx hb hK hP hD hS 0 11 rfl rfl (by unfold vp_in; decide) dX12_movesAll_275 (fun H locs hP hD hS => ?_)
  have hP : va_P (dC, dI) vwCl [((r 4), .inl ((kf 4), 24, .inl (upd (fun _ => 0) (12 : Int32).toNatClampNeg (vp_nar .boolean 0)))), ((r 0), .inl ((kf 0), 6, .inl f_24)), ((r 1), .inl ((kf 1), 36, .inl f_27)), ((r 2), .inl ((kf 2), 24, .inl f_30)), ((r 3), .inl ((kf 3), 24, .inl f_33)), ((r 5), .inl ((kf 5), 24, .inl f_36)), ((r 6), .inl ((kf 6), 24, .inl f_39)), ((r 7), .inl ((kf 7), 24, .inl f_42)), ((r 8), .inl ((kf 8), 8, .inl f_45)), ((r 9), .inl ((kf 9), 8, .inl f_48)), ((r 10), .inl ((kf 10), 8, .inl f_51)), ((r 11), .inl ((kf 11), 8, .inl f_54)), (h0, .inr (12, fsMk r (nI 217) 1)), ((r 12), .inl ((kf 12), 300, .inl f_130))] H := hP
  have hD : va_D A [((r 4), .inl ((kf 4), 24, .inl (upd (fun _ => 0) (12 : Int32).toNatClampNeg (vp_nar .boolean 0)))), ((r 0), .inl ((kf 0), 6, .inl f_24)), ((r 1), .inl ((kf 1), 36, .inl f_27)), ((r 2), .inl ((kf 2), 24, .inl f_30)), ((r 3), .inl ((kf 3), 24, .inl f_33)), ((r 5), .inl ((kf 5), 24, .inl f_36)), ((r 6), .inl ((kf 6), 24, .inl f_39)), ((r 7), .inl ((kf 7), 24, .inl f_42)), ((r 8), .inl ((kf 8), 8, .inl f_45)), ((r 9), .inl ((kf 9), 8, .inl f_48)), ((r 10), .inl ((kf 10), 8, .inl f_51)), ((r 11), .inl ((kf 11), 8, .inl f_54)), (h0, .inr (12, fsMk r (nI 217) 1)), ((r 12), .inl ((kf 12), 300, .inl f_130))] := hD
  rw [gz_upd0z] at hP hD
  refine lv_iinc (v := 13) (lv' := [(2, .int 13), (0, .ref h0), (1, .int 1)]) hx hb dX12_movesAll_276 hl (k := 0) rfl (by decide) (by decide) rfl (fun ls hl => ?_)
  refine lv_goto (tgt := 237) hx hb dX12_movesAll_279 (by decide) ?_
  refine lv_iload_n hx hb dX12_movesAll_237 rfl (lv_at hl 0 rfl) ?_
  refine lv_bipush (v := 24) hx hb dX12_movesAll_238 (by decide) ?_
  refine lv_icmp_ge (tgt := 282) hx hb dX12_movesAll_240 (by decide) (fun c_134 => absurd c_134 (by decide)) (fun c_134 => ?_)
  refine lv_aload_n hx hb dX12_movesAll_243 rfl (lv_at hl 1 rfl) ?_
  refine va_get (D := (dC, dI)) (ci := 12) (v := .ref (r 4)) (C := RX12) (T := TX12) (N := 57) hx hb hts (fun w h => List.mem_cons_of_mem _ (jnGB_X12 w h)) hown hK hP 12 rfl rfl 13 (by decide) (hts _ (List.mem_cons_of_mem _ mGB_43)) (fun _ h9 => h9) rfl dX12_movesAll_244 ?_
  refine lv_iload_n hx hb dX12_movesAll_247 rfl (lv_at hl 0 rfl) ?_
  refine lv_aload_n hx hb dX12_movesAll_248 rfl (lv_at hl 1 rfl) ?_
  refine lv_aload_n hx hb dX12_movesAll_249 rfl (lv_at hl 1 rfl) ?_
  refine va_get (D := (dC, dI)) (ci := 12) (v := .ref (r 4)) (C := RX12) (T := TX12) (N := 57) hx hb hts (fun w h => List.mem_cons_of_mem _ (jnGB_X12 w h)) hown hK hP 12 rfl rfl 13 (by decide) (hts _ (List.mem_cons_of_mem _ mGB_43)) (fun _ h9 => h9) rfl dX12_movesAll_250 ?_
  refine lv_iload_n hx hb dX12_movesAll_253 rfl (lv_at hl 0 rfl) ?_
  refine va_zald hx hb hK hP 0 11 rfl rfl (by unfold vp_in; decide) dX12_movesAll_254 ?_
  refine gz_topi (y := 0) rfl ?_
  refine lv_if_eq (tgt := 262) hx hb dX12_movesAll_255 (by decide) (fun c_135 => ?_) (fun c_135 => absurd (by decide) c_135)
  refine lv_iconst (v := 0) hx hb dX12_movesAll_262 (by decide) ?_
  have hP : va_P (dC, dI) vwCl [((r 4), .inl ((kf 4), 24, .inl (fun _ => 0))), ((r 0), .inl ((kf 0), 6, .inl f_24)), ((r 1), .inl ((kf 1), 36, .inl f_27)), ((r 2), .inl ((kf 2), 24, .inl f_30)), ((r 3), .inl ((kf 3), 24, .inl f_33)), ((r 5), .inl ((kf 5), 24, .inl f_36)), ((r 6), .inl ((kf 6), 24, .inl f_39)), ((r 7), .inl ((kf 7), 24, .inl f_42)), ((r 8), .inl ((kf 8), 8, .inl f_45)), ((r 9), .inl ((kf 9), 8, .inl f_48)), ((r 10), .inl ((kf 10), 8, .inl f_51)), ((r 11), .inl ((kf 11), 8, .inl f_54)), (h0, .inr (12, fsMk r (nI 217) 1)), ((r 12), .inl ((kf 12), 300, .inl f_130))] H := hP
  have hD : va_D A [((r 4), .inl ((kf 4), 24, .inl (fun _ => 0))), ((r 0), .inl ((kf 0), 6, .inl f_24)), ((r 1), .inl ((kf 1), 36, .inl f_27)), ((r 2), .inl ((kf 2), 24, .inl f_30)), ((r 3), .inl ((kf 3), 24, .inl f_33)), ((r 5), .inl ((kf 5), 24, .inl f_36)), ((r 6), .inl ((kf 6), 24, .inl f_39)), ((r 7), .inl ((kf 7), 24, .inl f_42)), ((r 8), .inl ((kf 8), 8, .inl f_45)), ((r 9), .inl ((kf 9), 8, .inl f_48)), ((r 10), .inl ((kf 10), 8, .inl f_51)), ((r 11), .inl ((kf 11), 8, .inl f_54)), (h0, .inr (12, fsMk r (nI 217) 1)), ((r 12), .inl ((kf 12), 300, .inl f_130))] := hD
  have hPc := hP.sub (ws' := [(h0, .inr (12, fsMk r (nI 217) 1)), ((r 12), .inl ((kf 12), 300, .inl f_130))]) [12, 13] rfl
  have hDc := hD.sub (ws' := [(h0, .inr (12, fsMk r (nI 217) 1)), ((r 12), .inl ((kf 12), 300, .inl f_130))]) [12, 13] (by decide) rfl
  have hKc := hK.sub (tys' := [((kf 12), .int)]) [12] rfl
  have hFc := va_free (wc := [(h0, .inr (12, fsMk r (nI 217) 1)), ((r 12), .inl ((kf 12), 300, .inl f_130))]) hD hS hA [12, 13] rfl
  refine va_calli (va_runV (As := [.int 0]) (rest := [.int 13, .ref (r 4)]) ⟨hx, hb, hml, hown, hts⟩ (fX12_moves l dC dI H.size h0 r kf 217 f_130 0 (by decide)) (cwV 1 hts (gz_gV mGB_70 mGB_71 mGB_72 mGB_5 mGB_69 goodGB) rfl rfl rfl (by decide +kernel) ⟨Nat.le_of_ble_eq_true rfl, Nat.le_of_ble_eq_true rfl⟩) ⟨fun a U g mk q => by obtain ⟨q0, q1, qP, qK, qD⟩ := q; exact ⟨q0, q1, qP, va_K.moved (u := U) (U := U.calling g mk a) (Vm.Alike.refl U.vm) qK, qD⟩, va_recv hKc hPc (ci := 12) (q0 := 0) rfl rfl, fun U hU hW => ⟨rfl, by rw [hU], by rw [hU]; exact hPc, va_K.moved hW.alike hKc, hDc.weaken (fun _ _ _ _ => trivial)⟩⟩ rfl rfl hl.1 rfl (lv_room (Nat.le_of_ble_eq_true rfl)) dX12_movesAll_263 ⟨Nat.le_of_ble_eq_true rfl, Nat.le_of_ble_eq_true rfl⟩) hS (fun q _ h => hFc q h) hFc (fun r_137 u t H1 locs ht hvm hw hB hz1 hk1 hS => ?_)
  obtain ⟨f_136, hP1, hK1, hD1⟩ := hB
  rw [ht] at hP1
  have hK1 := va_K.moved hvm.symm hK1
  obtain ⟨hP, hD⟩ := va_join (wr := [((r 4), .inl ((kf 4), 24, .inl (fun _ => 0))), ((r 0), .inl ((kf 0), 6, .inl f_24)), ((r 1), .inl ((kf 1), 36, .inl f_27)), ((r 2), .inl ((kf 2), 24, .inl f_30)), ((r 3), .inl ((kf 3), 24, .inl f_33)), ((r 5), .inl ((kf 5), 24, .inl f_36)), ((r 6), .inl ((kf 6), 24, .inl f_39)), ((r 7), .inl ((kf 7), 24, .inl f_42)), ((r 8), .inl ((kf 8), 8, .inl f_45)), ((r 9), .inl ((kf 9), 8, .inl f_48)), ((r 10), .inl ((kf 10), 8, .inl f_51)), ((r 11), .inl ((kf 11), 8, .inl f_54))]) (w1 := [(h0, .inr (12, fsMk r (nI (217 + 1)) 1)), ((r 12), .inl ((kf 12), 300, .inl f_136))]) hP hD [12, 13] [0, 1, 2, 3, 4, 5, 6, 7, 8, 9, 10, 11] rfl rfl (by decide) (by decide) hk1 hFc hP1 hD1
  generalize H1 = H at hP hS ⊢
  have hP : va_P (dC, dI) vwCl [((r 4), .inl ((kf 4), 24, .inl (fun _ => 0))), ((r 0), .inl ((kf 0), 6, .inl f_24)), ((r 1), .inl ((kf 1), 36, .inl f_27)), ((r 2), .inl ((kf 2), 24, .inl f_30)), ((r 3), .inl ((kf 3), 24, .inl f_33)), ((r 5), .inl ((kf 5), 24, .inl f_36)), ((r 6), .inl ((kf 6), 24, .inl f_39)), ((r 7), .inl ((kf 7), 24, .inl f_42)), ((r 8), .inl ((kf 8), 8, .inl f_45)), ((r 9), .inl ((kf 9), 8, .inl f_48)), ((r 10), .inl ((kf 10), 8, .inl f_51)), ((r 11), .inl ((kf 11), 8, .inl f_54)), (h0, .inr (12, fsMk r (nI (217 + 1)) 1)), ((r 12), .inl ((kf 12), 300, .inl f_136))] H := hP
  have hD : va_D A [((r 4), .inl ((kf 4), 24, .inl (fun _ => 0))), ((r 0), .inl ((kf 0), 6, .inl f_24)), ((r 1), .inl ((kf 1), 36, .inl f_27)), ((r 2), .inl ((kf 2), 24, .inl f_30)), ((r 3), .inl ((kf 3), 24, .inl f_33)), ((r 5), .inl ((kf 5), 24, .inl f_36)), ((r 6), .inl ((kf 6), 24, .inl f_39)), ((r 7), .inl ((kf 7), 24, .inl f_42)), ((r 8), .inl ((kf 8), 8, .inl f_45)), ((r 9), .inl ((kf 9), 8, .inl f_48)), ((r 10), .inl ((kf 10), 8, .inl f_51)), ((r 11), .inl ((kf 11), 8, .inl f_54)), (h0, .inr (12, fsMk r (nI (217 + 1)) 1)), ((r 12), .inl ((kf 12), 300, .inl f_136))] := hD
  subst hw
  have hP : va_P (dC, dI) vwCl [((r 4), .inl ((kf 4), 24, .inl (fun _ => 0))), ((r 0), .inl ((kf 0), 6, .inl f_24)), ((r 1), .inl ((kf 1), 36, .inl f_27)), ((r 2), .inl ((kf 2), 24, .inl f_30)), ((r 3), .inl ((kf 3), 24, .inl f_33)), ((r 5), .inl ((kf 5), 24, .inl f_36)), ((r 6), .inl ((kf 6), 24, .inl f_39)), ((r 7), .inl ((kf 7), 24, .inl f_42)), ((r 8), .inl ((kf 8), 8, .inl f_45)), ((r 9), .inl ((kf 9), 8, .inl f_48)), ((r 10), .inl ((kf 10), 8, .inl f_51)), ((r 11), .inl ((kf 11), 8, .inl f_54)), (h0, .inr (12, fsMk r (nI 218) 1)), ((r 12), .inl ((kf 12), 300, .inl f_136))] H := hP
  have hD : va_D A [((r 4), .inl ((kf 4), 24, .inl (fun _ => 0))), ((r 0), .inl ((kf 0), 6, .inl f_24)), ((r 1), .inl ((kf 1), 36, .inl f_27)), ((r 2), .inl ((kf 2), 24, .inl f_30)), ((r 3), .inl ((kf 3), 24, .inl f_33)), ((r 5), .inl ((kf 5), 24, .inl f_36)), ((r 6), .inl ((kf 6), 24, .inl f_39)), ((r 7), .inl ((kf 7), 24, .inl f_42)), ((r 8), .inl ((kf 8), 8, .inl f_45)), ((r 9), .inl ((kf 9), 8, .inl f_48)), ((r 10), .inl ((kf 10), 8, .inl f_51)), ((r 11), .inl ((kf 11), 8, .inl f_54)), (h0, .inr (12, fsMk r (nI 218) 1)), ((r 12), .inl ((kf 12), 300, .inl f_136))] := hD
  refine lv_iconst (v := 1) hx hb dX12_movesAll_266 (by decide) ?_
  refine lv_icmp_ne (tgt := 274) hx hb dX12_movesAll_267 (by decide) (fun c_138 => ?_) (fun c_138 => absurd c_138 (by decide))
  refine lv_iconst (v := 0) hx hb dX12_movesAll_274 (by decide) ?_
  refine va_zast hx hb hK hP hD hS 0 11 rfl rfl (by unfold vp_in; decide) dX12_movesAll_275 (fun H locs hP hD hS => ?_)
  have hP : va_P (dC, dI) vwCl [((r 4), .inl ((kf 4), 24, .inl (upd (fun _ => 0) (13 : Int32).toNatClampNeg (vp_nar .boolean 0)))), ((r 0), .inl ((kf 0), 6, .inl f_24)), ((r 1), .inl ((kf 1), 36, .inl f_27)), ((r 2), .inl ((kf 2), 24, .inl f_30)), ((r 3), .inl ((kf 3), 24, .inl f_33)), ((r 5), .inl ((kf 5), 24, .inl f_36)), ((r 6), .inl ((kf 6), 24, .inl f_39)), ((r 7), .inl ((kf 7), 24, .inl f_42)), ((r 8), .inl ((kf 8), 8, .inl f_45)), ((r 9), .inl ((kf 9), 8, .inl f_48)), ((r 10), .inl ((kf 10), 8, .inl f_51)), ((r 11), .inl ((kf 11), 8, .inl f_54)), (h0, .inr (12, fsMk r (nI 218) 1)), ((r 12), .inl ((kf 12), 300, .inl f_136))] H := hP
  have hD : va_D A [((r 4), .inl ((kf 4), 24, .inl (upd (fun _ => 0) (13 : Int32).toNatClampNeg (vp_nar .boolean 0)))), ((r 0), .inl ((kf 0), 6, .inl f_24)), ((r 1), .inl ((kf 1), 36, .inl f_27)), ((r 2), .inl ((kf 2), 24, .inl f_30)), ((r 3), .inl ((kf 3), 24, .inl f_33)), ((r 5), .inl ((kf 5), 24, .inl f_36)), ((r 6), .inl ((kf 6), 24, .inl f_39)), ((r 7), .inl ((kf 7), 24, .inl f_42)), ((r 8), .inl ((kf 8), 8, .inl f_45)), ((r 9), .inl ((kf 9), 8, .inl f_48)), ((r 10), .inl ((kf 10), 8, .inl f_51)), ((r 11), .inl ((kf 11), 8, .inl f_54)), (h0, .inr (12, fsMk r (nI 218) 1)), ((r 12), .inl ((kf 12), 300, .inl f_136))] := hD
  rw [gz_upd0z] at hP hD
  refine lv_iinc (v := 14) (lv' := [(2, .int 14), (0, .ref h0), (1, .int 1)]) hx hb dX12_movesAll_276 hl (k := 0) rfl (by decide) (by decide) rfl (fun ls hl => ?_)
  refine lv_goto (tgt := 237) hx hb dX12_movesAll_279 (by decide) ?_
  refine lv_iload_n hx hb dX12_movesAll_237 rfl (lv_at hl 0 rfl) ?_
  refine lv_bipush (v := 24) hx hb dX12_movesAll_238 (by decide) ?_
  refine lv_icmp_ge (tgt := 282) hx hb dX12_movesAll_240 (by decide) (fun c_140 => absurd c_140 (by decide)) (fun c_140 => ?_)
  refine lv_aload_n hx hb dX12_movesAll_243 rfl (lv_at hl 1 rfl) ?_
  refine va_get (D := (dC, dI)) (ci := 12) (v := .ref (r 4)) (C := RX12) (T := TX12) (N := 57) hx hb hts (fun w h => List.mem_cons_of_mem _ (jnGB_X12 w h)) hown hK hP 12 rfl rfl 13 (by decide) (hts _ (List.mem_cons_of_mem _ mGB_43)) (fun _ h9 => h9) rfl dX12_movesAll_244 ?_
  refine lv_iload_n hx hb dX12_movesAll_247 rfl (lv_at hl 0 rfl) ?_
  refine lv_aload_n hx hb dX12_movesAll_248 rfl (lv_at hl 1 rfl) ?_
  refine lv_aload_n hx hb dX12_movesAll_249 rfl (lv_at hl 1 rfl) ?_
  refine va_get (D := (dC, dI)) (ci := 12) (v := .ref (r 4)) (C := RX12) (T := TX12) (N := 57) hx hb hts (fun w h => List.mem_cons_of_mem _ (jnGB_X12 w h)) hown hK hP 12 rfl rfl 13 (by decide) (hts _ (List.mem_cons_of_mem _ mGB_43)) (fun _ h9 => h9) rfl dX12_movesAll_250 ?_
  refine lv_iload_n hx hb dX12_movesAll_253 rfl (lv_at hl 0 rfl) ?_
  refine va_zald hx hb hK hP 0 11 rfl rfl (by unfold vp_in; decide) dX12_movesAll_254 ?_
  refine gz_topi (y := 0) rfl ?_
  refine lv_if_eq (tgt := 262) hx hb dX12_movesAll_255 (by decide) (fun c_141 => ?_) (fun c_141 => absurd (by decide) c_141)
  refine lv_iconst (v := 0) hx hb dX12_movesAll_262 (by decide) ?_
  have hP : va_P (dC, dI) vwCl [((r 4), .inl ((kf 4), 24, .inl (fun _ => 0))), ((r 0), .inl ((kf 0), 6, .inl f_24)), ((r 1), .inl ((kf 1), 36, .inl f_27)), ((r 2), .inl ((kf 2), 24, .inl f_30)), ((r 3), .inl ((kf 3), 24, .inl f_33)), ((r 5), .inl ((kf 5), 24, .inl f_36)), ((r 6), .inl ((kf 6), 24, .inl f_39)), ((r 7), .inl ((kf 7), 24, .inl f_42)), ((r 8), .inl ((kf 8), 8, .inl f_45)), ((r 9), .inl ((kf 9), 8, .inl f_48)), ((r 10), .inl ((kf 10), 8, .inl f_51)), ((r 11), .inl ((kf 11), 8, .inl f_54)), (h0, .inr (12, fsMk r (nI 218) 1)), ((r 12), .inl ((kf 12), 300, .inl f_136))] H := hP
  have hD : va_D A [((r 4), .inl ((kf 4), 24, .inl (fun _ => 0))), ((r 0), .inl ((kf 0), 6, .inl f_24)), ((r 1), .inl ((kf 1), 36, .inl f_27)), ((r 2), .inl ((kf 2), 24, .inl f_30)), ((r 3), .inl ((kf 3), 24, .inl f_33)), ((r 5), .inl ((kf 5), 24, .inl f_36)), ((r 6), .inl ((kf 6), 24, .inl f_39)), ((r 7), .inl ((kf 7), 24, .inl f_42)), ((r 8), .inl ((kf 8), 8, .inl f_45)), ((r 9), .inl ((kf 9), 8, .inl f_48)), ((r 10), .inl ((kf 10), 8, .inl f_51)), ((r 11), .inl ((kf 11), 8, .inl f_54)), (h0, .inr (12, fsMk r (nI 218) 1)), ((r 12), .inl ((kf 12), 300, .inl f_136))] := hD
  have hPc := hP.sub (ws' := [(h0, .inr (12, fsMk r (nI 218) 1)), ((r 12), .inl ((kf 12), 300, .inl f_136))]) [12, 13] rfl
  have hDc := hD.sub (ws' := [(h0, .inr (12, fsMk r (nI 218) 1)), ((r 12), .inl ((kf 12), 300, .inl f_136))]) [12, 13] (by decide) rfl
  have hKc := hK.sub (tys' := [((kf 12), .int)]) [12] rfl
  have hFc := va_free (wc := [(h0, .inr (12, fsMk r (nI 218) 1)), ((r 12), .inl ((kf 12), 300, .inl f_136))]) hD hS hA [12, 13] rfl
  refine va_calli (va_runV (As := [.int 0]) (rest := [.int 14, .ref (r 4)]) ⟨hx, hb, hml, hown, hts⟩ (fX12_moves l dC dI H.size h0 r kf 218 f_136 0 (by decide)) (cwV 1 hts (gz_gV mGB_70 mGB_71 mGB_72 mGB_5 mGB_69 goodGB) rfl rfl rfl (by decide +kernel) ⟨Nat.le_of_ble_eq_true rfl, Nat.le_of_ble_eq_true rfl⟩) ⟨fun a U g mk q => by obtain ⟨q0, q1, qP, qK, qD⟩ := q; exact ⟨q0, q1, qP, va_K.moved (u := U) (U := U.calling g mk a) (Vm.Alike.refl U.vm) qK, qD⟩, va_recv hKc hPc (ci := 12) (q0 := 0) rfl rfl, fun U hU hW => ⟨rfl, by rw [hU], by rw [hU]; exact hPc, va_K.moved hW.alike hKc, hDc.weaken (fun _ _ _ _ => trivial)⟩⟩ rfl rfl hl.1 rfl (lv_room (Nat.le_of_ble_eq_true rfl)) dX12_movesAll_263 ⟨Nat.le_of_ble_eq_true rfl, Nat.le_of_ble_eq_true rfl⟩) hS (fun q _ h => hFc q h) hFc (fun r_143 u t H1 locs ht hvm hw hB hz1 hk1 hS => ?_)
  obtain ⟨f_142, hP1, hK1, hD1⟩ := hB
  rw [ht] at hP1
  have hK1 := va_K.moved hvm.symm hK1
  obtain ⟨hP, hD⟩ := va_join (wr := [((r 4), .inl ((kf 4), 24, .inl (fun _ => 0))), ((r 0), .inl ((kf 0), 6, .inl f_24)), ((r 1), .inl ((kf 1), 36, .inl f_27)), ((r 2), .inl ((kf 2), 24, .inl f_30)), ((r 3), .inl ((kf 3), 24, .inl f_33)), ((r 5), .inl ((kf 5), 24, .inl f_36)), ((r 6), .inl ((kf 6), 24, .inl f_39)), ((r 7), .inl ((kf 7), 24, .inl f_42)), ((r 8), .inl ((kf 8), 8, .inl f_45)), ((r 9), .inl ((kf 9), 8, .inl f_48)), ((r 10), .inl ((kf 10), 8, .inl f_51)), ((r 11), .inl ((kf 11), 8, .inl f_54))]) (w1 := [(h0, .inr (12, fsMk r (nI (218 + 1)) 1)), ((r 12), .inl ((kf 12), 300, .inl f_142))]) hP hD [12, 13] [0, 1, 2, 3, 4, 5, 6, 7, 8, 9, 10, 11] rfl rfl (by decide) (by decide) hk1 hFc hP1 hD1
  generalize H1 = H at hP hS ⊢
  have hP : va_P (dC, dI) vwCl [((r 4), .inl ((kf 4), 24, .inl (fun _ => 0))), ((r 0), .inl ((kf 0), 6, .inl f_24)), ((r 1), .inl ((kf 1), 36, .inl f_27)), ((r 2), .inl ((kf 2), 24, .inl f_30)), ((r 3), .inl ((kf 3), 24, .inl f_33)), ((r 5), .inl ((kf 5), 24, .inl f_36)), ((r 6), .inl ((kf 6), 24, .inl f_39)), ((r 7), .inl ((kf 7), 24, .inl f_42)), ((r 8), .inl ((kf 8), 8, .inl f_45)), ((r 9), .inl ((kf 9), 8, .inl f_48)), ((r 10), .inl ((kf 10), 8, .inl f_51)), ((r 11), .inl ((kf 11), 8, .inl f_54)), (h0, .inr (12, fsMk r (nI (218 + 1)) 1)), ((r 12), .inl ((kf 12), 300, .inl f_142))] H := hP
  have hD : va_D A [((r 4), .inl ((kf 4), 24, .inl (fun _ => 0))), ((r 0), .inl ((kf 0), 6, .inl f_24)), ((r 1), .inl ((kf 1), 36, .inl f_27)), ((r 2), .inl ((kf 2), 24, .inl f_30)), ((r 3), .inl ((kf 3), 24, .inl f_33)), ((r 5), .inl ((kf 5), 24, .inl f_36)), ((r 6), .inl ((kf 6), 24, .inl f_39)), ((r 7), .inl ((kf 7), 24, .inl f_42)), ((r 8), .inl ((kf 8), 8, .inl f_45)), ((r 9), .inl ((kf 9), 8, .inl f_48)), ((r 10), .inl ((kf 10), 8, .inl f_51)), ((r 11), .inl ((kf 11), 8, .inl f_54)), (h0, .inr (12, fsMk r (nI (218 + 1)) 1)), ((r 12), .inl ((kf 12), 300, .inl f_142))] := hD
  subst hw
  have hP : va_P (dC, dI) vwCl [((r 4), .inl ((kf 4), 24, .inl (fun _ => 0))), ((r 0), .inl ((kf 0), 6, .inl f_24)), ((r 1), .inl ((kf 1), 36, .inl f_27)), ((r 2), .inl ((kf 2), 24, .inl f_30)), ((r 3), .inl ((kf 3), 24, .inl f_33)), ((r 5), .inl ((kf 5), 24, .inl f_36)), ((r 6), .inl ((kf 6), 24, .inl f_39)), ((r 7), .inl ((kf 7), 24, .inl f_42)), ((r 8), .inl ((kf 8), 8, .inl f_45)), ((r 9), .inl ((kf 9), 8, .inl f_48)), ((r 10), .inl ((kf 10), 8, .inl f_51)), ((r 11), .inl ((kf 11), 8, .inl f_54)), (h0, .inr (12, fsMk r (nI 219) 1)), ((r 12), .inl ((kf 12), 300, .inl f_142))] H := hP
  have hD : va_D A [((r 4), .inl ((kf 4), 24, .inl (fun _ => 0))), ((r 0), .inl ((kf 0), 6, .inl f_24)), ((r 1), .inl ((kf 1), 36, .inl f_27)), ((r 2), .inl ((kf 2), 24, .inl f_30)), ((r 3), .inl ((kf 3), 24, .inl f_33)), ((r 5), .inl ((kf 5), 24, .inl f_36)), ((r 6), .inl ((kf 6), 24, .inl f_39)), ((r 7), .inl ((kf 7), 24, .inl f_42)), ((r 8), .inl ((kf 8), 8, .inl f_45)), ((r 9), .inl ((kf 9), 8, .inl f_48)), ((r 10), .inl ((kf 10), 8, .inl f_51)), ((r 11), .inl ((kf 11), 8, .inl f_54)), (h0, .inr (12, fsMk r (nI 219) 1)), ((r 12), .inl ((kf 12), 300, .inl f_142))] := hD
  refine lv_iconst (v := 1) hx hb dX12_movesAll_266 (by decide) ?_
  refine lv_icmp_ne (tgt := 274) hx hb dX12_movesAll_267 (by decide) (fun c_144 => ?_) (fun c_144 => absurd c_144 (by decide))
  refine lv_iconst (v := 0) hx hb dX12_movesAll_274 (by decide) ?_
  refine va_zast hx hb hK hP hD hS 0 11 rfl rfl (by unfold vp_in; decide) dX12_movesAll_275 (fun H locs hP hD hS => ?_)
  have hP : va_P (dC, dI) vwCl [((r 4), .inl ((kf 4), 24, .inl (upd (fun _ => 0) (14 : Int32).toNatClampNeg (vp_nar .boolean 0)))), ((r 0), .inl ((kf 0), 6, .inl f_24)), ((r 1), .inl ((kf 1), 36, .inl f_27)), ((r 2), .inl ((kf 2), 24, .inl f_30)), ((r 3), .inl ((kf 3), 24, .inl f_33)), ((r 5), .inl ((kf 5), 24, .inl f_36)), ((r 6), .inl ((kf 6), 24, .inl f_39)), ((r 7), .inl ((kf 7), 24, .inl f_42)), ((r 8), .inl ((kf 8), 8, .inl f_45)), ((r 9), .inl ((kf 9), 8, .inl f_48)), ((r 10), .inl ((kf 10), 8, .inl f_51)), ((r 11), .inl ((kf 11), 8, .inl f_54)), (h0, .inr (12, fsMk r (nI 219) 1)), ((r 12), .inl ((kf 12), 300, .inl f_142))] H := hP
  have hD : va_D A [((r 4), .inl ((kf 4), 24, .inl (upd (fun _ => 0) (14 : Int32).toNatClampNeg (vp_nar .boolean 0)))), ((r 0), .inl ((kf 0), 6, .inl f_24)), ((r 1), .inl ((kf 1), 36, .inl f_27)), ((r 2), .inl ((kf 2), 24, .inl f_30)), ((r 3), .inl ((kf 3), 24, .inl f_33)), ((r 5), .inl ((kf 5), 24, .inl f_36)), ((r 6), .inl ((kf 6), 24, .inl f_39)), ((r 7), .inl ((kf 7), 24, .inl f_42)), ((r 8), .inl ((kf 8), 8, .inl f_45)), ((r 9), .inl ((kf 9), 8, .inl f_48)), ((r 10), .inl ((kf 10), 8, .inl f_51)), ((r 11), .inl ((kf 11), 8, .inl f_54)), (h0, .inr (12, fsMk r (nI 219) 1)), ((r 12), .inl ((kf 12), 300, .inl f_142))] := hD
  rw [gz_upd0z] at hP hD
  refine lv_iinc (v := 15) (lv' := [(2, .int 15), (0, .ref h0), (1, .int 1)]) hx hb dX12_movesAll_276 hl (k := 0) rfl (by decide) (by decide) rfl (fun ls hl => ?_)
  refine lv_goto (tgt := 237) hx hb dX12_movesAll_279 (by decide) ?_
  refine lv_iload_n hx hb dX12_movesAll_237 rfl (lv_at hl 0 rfl) ?_
  refine lv_bipush (v := 24) hx hb dX12_movesAll_238 (by decide) ?_
  refine lv_icmp_ge (tgt := 282) hx hb dX12_movesAll_240 (by decide) (fun c_146 => absurd c_146 (by decide)) (fun c_146 => ?_)
  refine lv_aload_n hx hb dX12_movesAll_243 rfl (lv_at hl 1 rfl) ?_
  refine va_get (D := (dC, dI)) (ci := 12) (v := .ref (r 4)) (C := RX12) (T := TX12) (N := 57) hx hb hts (fun w h => List.mem_cons_of_mem _ (jnGB_X12 w h)) hown hK hP 12 rfl rfl 13 (by decide) (hts _ (List.mem_cons_of_mem _ mGB_43)) (fun _ h9 => h9) rfl dX12_movesAll_244 ?_
  refine lv_iload_n hx hb dX12_movesAll_247 rfl (lv_at hl 0 rfl) ?_
  refine lv_aload_n hx hb dX12_movesAll_248 rfl (lv_at hl 1 rfl) ?_
  refine lv_aload_n hx hb dX12_movesAll_249 rfl (lv_at hl 1 rfl) ?_
  refine va_get (D := (dC, dI)) (ci := 12) (v := .ref (r 4)) (C := RX12) (T := TX12) (N := 57) hx hb hts (fun w h => List.mem_cons_of_mem _ (jnGB_X12 w h)) hown hK hP 12 rfl rfl 13 (by decide) (hts _ (List.mem_cons_of_mem _ mGB_43)) (fun _ h9 => h9) rfl dX12_movesAll_250 ?_
  refine lv_iload_n hx hb dX12_movesAll_253 rfl (lv_at hl 0 rfl) ?_
  refine va_zald hx hb hK hP 0 11 rfl rfl (by unfold vp_in; decide) dX12_movesAll_254 ?_
  refine gz_topi (y := 0) rfl ?_
  refine lv_if_eq (tgt := 262) hx hb dX12_movesAll_255 (by decide) (fun c_147 => ?_) (fun c_147 => absurd (by decide) c_147)
  refine lv_iconst (v := 0) hx hb dX12_movesAll_262 (by decide) ?_
  have hP : va_P (dC, dI) vwCl [((r 4), .inl ((kf 4), 24, .inl (fun _ => 0))), ((r 0), .inl ((kf 0), 6, .inl f_24)), ((r 1), .inl ((kf 1), 36, .inl f_27)), ((r 2), .inl ((kf 2), 24, .inl f_30)), ((r 3), .inl ((kf 3), 24, .inl f_33)), ((r 5), .inl ((kf 5), 24, .inl f_36)), ((r 6), .inl ((kf 6), 24, .inl f_39)), ((r 7), .inl ((kf 7), 24, .inl f_42)), ((r 8), .inl ((kf 8), 8, .inl f_45)), ((r 9), .inl ((kf 9), 8, .inl f_48)), ((r 10), .inl ((kf 10), 8, .inl f_51)), ((r 11), .inl ((kf 11), 8, .inl f_54)), (h0, .inr (12, fsMk r (nI 219) 1)), ((r 12), .inl ((kf 12), 300, .inl f_142))] H := hP
  have hD : va_D A [((r 4), .inl ((kf 4), 24, .inl (fun _ => 0))), ((r 0), .inl ((kf 0), 6, .inl f_24)), ((r 1), .inl ((kf 1), 36, .inl f_27)), ((r 2), .inl ((kf 2), 24, .inl f_30)), ((r 3), .inl ((kf 3), 24, .inl f_33)), ((r 5), .inl ((kf 5), 24, .inl f_36)), ((r 6), .inl ((kf 6), 24, .inl f_39)), ((r 7), .inl ((kf 7), 24, .inl f_42)), ((r 8), .inl ((kf 8), 8, .inl f_45)), ((r 9), .inl ((kf 9), 8, .inl f_48)), ((r 10), .inl ((kf 10), 8, .inl f_51)), ((r 11), .inl ((kf 11), 8, .inl f_54)), (h0, .inr (12, fsMk r (nI 219) 1)), ((r 12), .inl ((kf 12), 300, .inl f_142))] := hD
  have hPc := hP.sub (ws' := [(h0, .inr (12, fsMk r (nI 219) 1)), ((r 12), .inl ((kf 12), 300, .inl f_142))]) [12, 13] rfl
  have hDc := hD.sub (ws' := [(h0, .inr (12, fsMk r (nI 219) 1)), ((r 12), .inl ((kf 12), 300, .inl f_142))]) [12, 13] (by decide) rfl
  have hKc := hK.sub (tys' := [((kf 12), .int)]) [12] rfl
  have hFc := va_free (wc := [(h0, .inr (12, fsMk r (nI 219) 1)), ((r 12), .inl ((kf 12), 300, .inl f_142))]) hD hS hA [12, 13] rfl
  refine va_calli (va_runV (As := [.int 0]) (rest := [.int 15, .ref (r 4)]) ⟨hx, hb, hml, hown, hts⟩ (fX12_moves l dC dI H.size h0 r kf 219 f_142 0 (by decide)) (cwV 1 hts (gz_gV mGB_70 mGB_71 mGB_72 mGB_5 mGB_69 goodGB) rfl rfl rfl (by decide +kernel) ⟨Nat.le_of_ble_eq_true rfl, Nat.le_of_ble_eq_true rfl⟩) ⟨fun a U g mk q => by obtain ⟨q0, q1, qP, qK, qD⟩ := q; exact ⟨q0, q1, qP, va_K.moved (u := U) (U := U.calling g mk a) (Vm.Alike.refl U.vm) qK, qD⟩, va_recv hKc hPc (ci := 12) (q0 := 0) rfl rfl, fun U hU hW => ⟨rfl, by rw [hU], by rw [hU]; exact hPc, va_K.moved hW.alike hKc, hDc.weaken (fun _ _ _ _ => trivial)⟩⟩ rfl rfl hl.1 rfl (lv_room (Nat.le_of_ble_eq_true rfl)) dX12_movesAll_263 ⟨Nat.le_of_ble_eq_true rfl, Nat.le_of_ble_eq_true rfl⟩) hS (fun q _ h => hFc q h) hFc (fun r_149 u t H1 locs ht hvm hw hB hz1 hk1 hS => ?_)
  obtain ⟨f_148, hP1, hK1, hD1⟩ := hB
  rw [ht] at hP1
  have hK1 := va_K.moved hvm.symm hK1
  obtain ⟨hP, hD⟩ := va_join (wr := [((r 4), .inl ((kf 4), 24, .inl (fun _ => 0))), ((r 0), .inl ((kf 0), 6, .inl f_24)), ((r 1), .inl ((kf 1), 36, .inl f_27)), ((r 2), .inl ((kf 2), 24, .inl f_30)), ((r 3), .inl ((kf 3), 24, .inl f_33)), ((r 5), .inl ((kf 5), 24, .inl f_36)), ((r 6), .inl ((kf 6), 24, .inl f_39)), ((r 7), .inl ((kf 7), 24, .inl f_42)), ((r 8), .inl ((kf 8), 8, .inl f_45)), ((r 9), .inl ((kf 9), 8, .inl f_48)), ((r 10), .inl ((kf 10), 8, .inl f_51)), ((r 11), .inl ((kf 11), 8, .inl f_54))]) (w1 := [(h0, .inr (12, fsMk r (nI (219 + 1)) 1)), ((r 12), .inl ((kf 12), 300, .inl f_148))]) hP hD [12, 13] [0, 1, 2, 3, 4, 5, 6, 7, 8, 9, 10, 11] rfl rfl (by decide) (by decide) hk1 hFc hP1 hD1
  generalize H1 = H at hP hS ⊢
  have hP : va_P (dC, dI) vwCl [((r 4), .inl ((kf 4), 24, .inl (fun _ => 0))), ((r 0), .inl ((kf 0), 6, .inl f_24)), ((r 1), .inl ((kf 1), 36, .inl f_27)), ((r 2), .inl ((kf 2), 24, .inl f_30)), ((r 3), .inl ((kf 3), 24, .inl f_33)), ((r 5), .inl ((kf 5), 24, .inl f_36)), ((r 6), .inl ((kf 6), 24, .inl f_39)), ((r 7), .inl ((kf 7), 24, .inl f_42)), ((r 8), .inl ((kf 8), 8, .inl f_45)), ((r 9), .inl ((kf 9), 8, .inl f_48)), ((r 10), .inl ((kf 10), 8, .inl f_51)), ((r 11), .inl ((kf 11), 8, .inl f_54)), (h0, .inr (12, fsMk r (nI (219 + 1)) 1)), ((r 12), .inl ((kf 12), 300, .inl f_148))] H := hP
  have hD : va_D A [((r 4), .inl ((kf 4), 24, .inl (fun _ => 0))), ((r 0), .inl ((kf 0), 6, .inl f_24)), ((r 1), .inl ((kf 1), 36, .inl f_27)), ((r 2), .inl ((kf 2), 24, .inl f_30)), ((r 3), .inl ((kf 3), 24, .inl f_33)), ((r 5), .inl ((kf 5), 24, .inl f_36)), ((r 6), .inl ((kf 6), 24, .inl f_39)), ((r 7), .inl ((kf 7), 24, .inl f_42)), ((r 8), .inl ((kf 8), 8, .inl f_45)), ((r 9), .inl ((kf 9), 8, .inl f_48)), ((r 10), .inl ((kf 10), 8, .inl f_51)), ((r 11), .inl ((kf 11), 8, .inl f_54)), (h0, .inr (12, fsMk r (nI (219 + 1)) 1)), ((r 12), .inl ((kf 12), 300, .inl f_148))] := hD
  subst hw
  have hP : va_P (dC, dI) vwCl [((r 4), .inl ((kf 4), 24, .inl (fun _ => 0))), ((r 0), .inl ((kf 0), 6, .inl f_24)), ((r 1), .inl ((kf 1), 36, .inl f_27)), ((r 2), .inl ((kf 2), 24, .inl f_30)), ((r 3), .inl ((kf 3), 24, .inl f_33)), ((r 5), .inl ((kf 5), 24, .inl f_36)), ((r 6), .inl ((kf 6), 24, .inl f_39)), ((r 7), .inl ((kf 7), 24, .inl f_42)), ((r 8), .inl ((kf 8), 8, .inl f_45)), ((r 9), .inl ((kf 9), 8, .inl f_48)), ((r 10), .inl ((kf 10), 8, .inl f_51)), ((r 11), .inl ((kf 11), 8, .inl f_54)), (h0, .inr (12, fsMk r (nI 220) 1)), ((r 12), .inl ((kf 12), 300, .inl f_148))] H := hP
  have hD : va_D A [((r 4), .inl ((kf 4), 24, .inl (fun _ => 0))), ((r 0), .inl ((kf 0), 6, .inl f_24)), ((r 1), .inl ((kf 1), 36, .inl f_27)), ((r 2), .inl ((kf 2), 24, .inl f_30)), ((r 3), .inl ((kf 3), 24, .inl f_33)), ((r 5), .inl ((kf 5), 24, .inl f_36)), ((r 6), .inl ((kf 6), 24, .inl f_39)), ((r 7), .inl ((kf 7), 24, .inl f_42)), ((r 8), .inl ((kf 8), 8, .inl f_45)), ((r 9), .inl ((kf 9), 8, .inl f_48)), ((r 10), .inl ((kf 10), 8, .inl f_51)), ((r 11), .inl ((kf 11), 8, .inl f_54)), (h0, .inr (12, fsMk r (nI 220) 1)), ((r 12), .inl ((kf 12), 300, .inl f_148))] := hD
  refine lv_iconst (v := 1) hx hb dX12_movesAll_266 (by decide) ?_
  refine lv_icmp_ne (tgt := 274) hx hb dX12_movesAll_267 (by decide) (fun c_150 => ?_) (fun c_150 => absurd c_150 (by decide))
  refine lv_iconst (v := 0) hx hb dX12_movesAll_274 (by decide) ?_
  refine va_zast hx hb hK hP hD hS 0 11 rfl rfl (by unfold vp_in; decide) dX12_movesAll_275 (fun H locs hP hD hS => ?_)
  have hP : va_P (dC, dI) vwCl [((r 4), .inl ((kf 4), 24, .inl (upd (fun _ => 0) (15 : Int32).toNatClampNeg (vp_nar .boolean 0)))), ((r 0), .inl ((kf 0), 6, .inl f_24)), ((r 1), .inl ((kf 1), 36, .inl f_27)), ((r 2), .inl ((kf 2), 24, .inl f_30)), ((r 3), .inl ((kf 3), 24, .inl f_33)), ((r 5), .inl ((kf 5), 24, .inl f_36)), ((r 6), .inl ((kf 6), 24, .inl f_39)), ((r 7), .inl ((kf 7), 24, .inl f_42)), ((r 8), .inl ((kf 8), 8, .inl f_45)), ((r 9), .inl ((kf 9), 8, .inl f_48)), ((r 10), .inl ((kf 10), 8, .inl f_51)), ((r 11), .inl ((kf 11), 8, .inl f_54)), (h0, .inr (12, fsMk r (nI 220) 1)), ((r 12), .inl ((kf 12), 300, .inl f_148))] H := hP
  have hD : va_D A [((r 4), .inl ((kf 4), 24, .inl (upd (fun _ => 0) (15 : Int32).toNatClampNeg (vp_nar .boolean 0)))), ((r 0), .inl ((kf 0), 6, .inl f_24)), ((r 1), .inl ((kf 1), 36, .inl f_27)), ((r 2), .inl ((kf 2), 24, .inl f_30)), ((r 3), .inl ((kf 3), 24, .inl f_33)), ((r 5), .inl ((kf 5), 24, .inl f_36)), ((r 6), .inl ((kf 6), 24, .inl f_39)), ((r 7), .inl ((kf 7), 24, .inl f_42)), ((r 8), .inl ((kf 8), 8, .inl f_45)), ((r 9), .inl ((kf 9), 8, .inl f_48)), ((r 10), .inl ((kf 10), 8, .inl f_51)), ((r 11), .inl ((kf 11), 8, .inl f_54)), (h0, .inr (12, fsMk r (nI 220) 1)), ((r 12), .inl ((kf 12), 300, .inl f_148))] := hD
  rw [gz_upd0z] at hP hD
  refine lv_iinc (v := 16) (lv' := [(2, .int 16), (0, .ref h0), (1, .int 1)]) hx hb dX12_movesAll_276 hl (k := 0) rfl (by decide) (by decide) rfl (fun ls hl => ?_)
  refine lv_goto (tgt := 237) hx hb dX12_movesAll_279 (by decide) ?_
  refine lv_iload_n hx hb dX12_movesAll_237 rfl (lv_at hl 0 rfl) ?_
  refine lv_bipush (v := 24) hx hb dX12_movesAll_238 (by decide) ?_
  refine lv_icmp_ge (tgt := 282) hx hb dX12_movesAll_240 (by decide) (fun c_152 => absurd c_152 (by decide)) (fun c_152 => ?_)
  refine lv_aload_n hx hb dX12_movesAll_243 rfl (lv_at hl 1 rfl) ?_
  refine va_get (D := (dC, dI)) (ci := 12) (v := .ref (r 4)) (C := RX12) (T := TX12) (N := 57) hx hb hts (fun w h => List.mem_cons_of_mem _ (jnGB_X12 w h)) hown hK hP 12 rfl rfl 13 (by decide) (hts _ (List.mem_cons_of_mem _ mGB_43)) (fun _ h9 => h9) rfl dX12_movesAll_244 ?_
  refine lv_iload_n hx hb dX12_movesAll_247 rfl (lv_at hl 0 rfl) ?_
  refine lv_aload_n hx hb dX12_movesAll_248 rfl (lv_at hl 1 rfl) ?_
  refine lv_aload_n hx hb dX12_movesAll_249 rfl (lv_at hl 1 rfl) ?_
  refine va_get (D := (dC, dI)) (ci := 12) (v := .ref (r 4)) (C := RX12) (T := TX12) (N := 57) hx hb hts (fun w h => List.mem_cons_of_mem _ (jnGB_X12 w h)) hown hK hP 12 rfl rfl 13 (by decide) (hts _ (List.mem_cons_of_mem _ mGB_43)) (fun _ h9 => h9) rfl dX12_movesAll_250 ?_
  refine lv_iload_n hx hb dX12_movesAll_253 rfl (lv_at hl 0 rfl) ?_
  refine va_zald hx hb hK hP 0 11 rfl rfl (by unfold vp_in; decide) dX12_movesAll_254 ?_
  refine gz_topi (y := 0) rfl ?_
  refine lv_if_eq (tgt := 262) hx hb dX12_movesAll_255 (by decide) (fun c_153 => ?_) (fun c_153 => absurd (by decide) c_153)
  refine lv_iconst (v := 0) hx hb dX12_movesAll_262 (by decide) ?_
  have hP : va_P (dC, dI) vwCl [((r 4), .inl ((kf 4), 24, .inl (fun _ => 0))), ((r 0), .inl ((kf 0), 6, .inl f_24)), ((r 1), .inl ((kf 1), 36, .inl f_27)), ((r 2), .inl ((kf 2), 24, .inl f_30)), ((r 3), .inl ((kf 3), 24, .inl f_33)), ((r 5), .inl ((kf 5), 24, .inl f_36)), ((r 6), .inl ((kf 6), 24, .inl f_39)), ((r 7), .inl ((kf 7), 24, .inl f_42)), ((r 8), .inl ((kf 8), 8, .inl f_45)), ((r 9), .inl ((kf 9), 8, .inl f_48)), ((r 10), .inl ((kf 10), 8, .inl f_51)), ((r 11), .inl ((kf 11), 8, .inl f_54)), (h0, .inr (12, fsMk r (nI 220) 1)), ((r 12), .inl ((kf 12), 300, .inl f_148))] H := hP
  have hD : va_D A [((r 4), .inl ((kf 4), 24, .inl (fun _ => 0))), ((r 0), .inl ((kf 0), 6, .inl f_24)), ((r 1), .inl ((kf 1), 36, .inl f_27)), ((r 2), .inl ((kf 2), 24, .inl f_30)), ((r 3), .inl ((kf 3), 24, .inl f_33)), ((r 5), .inl ((kf 5), 24, .inl f_36)), ((r 6), .inl ((kf 6), 24, .inl f_39)), ((r 7), .inl ((kf 7), 24, .inl f_42)), ((r 8), .inl ((kf 8), 8, .inl f_45)), ((r 9), .inl ((kf 9), 8, .inl f_48)), ((r 10), .inl ((kf 10), 8, .inl f_51)), ((r 11), .inl ((kf 11), 8, .inl f_54)), (h0, .inr (12, fsMk r (nI 220) 1)), ((r 12), .inl ((kf 12), 300, .inl f_148))] := hD
  have hPc := hP.sub (ws' := [(h0, .inr (12, fsMk r (nI 220) 1)), ((r 12), .inl ((kf 12), 300, .inl f_148))]) [12, 13] rfl
  have hDc := hD.sub (ws' := [(h0, .inr (12, fsMk r (nI 220) 1)), ((r 12), .inl ((kf 12), 300, .inl f_148))]) [12, 13] (by decide) rfl
  have hKc := hK.sub (tys' := [((kf 12), .int)]) [12] rfl
  have hFc := va_free (wc := [(h0, .inr (12, fsMk r (nI 220) 1)), ((r 12), .inl ((kf 12), 300, .inl f_148))]) hD hS hA [12, 13] rfl
  refine va_calli (va_runV (As := [.int 0]) (rest := [.int 16, .ref (r 4)]) ⟨hx, hb, hml, hown, hts⟩ (fX12_moves l dC dI H.size h0 r kf 220 f_148 0 (by decide)) (cwV 1 hts (gz_gV mGB_70 mGB_71 mGB_72 mGB_5 mGB_69 goodGB) rfl rfl rfl (by decide +kernel) ⟨Nat.le_of_ble_eq_true rfl, Nat.le_of_ble_eq_true rfl⟩) ⟨fun a U g mk q => by obtain ⟨q0, q1, qP, qK, qD⟩ := q; exact ⟨q0, q1, qP, va_K.moved (u := U) (U := U.calling g mk a) (Vm.Alike.refl U.vm) qK, qD⟩, va_recv hKc hPc (ci := 12) (q0 := 0) rfl rfl, fun U hU hW => ⟨rfl, by rw [hU], by rw [hU]; exact hPc, va_K.moved hW.alike hKc, hDc.weaken (fun _ _ _ _ => trivial)⟩⟩ rfl rfl hl.1 rfl (lv_room (Nat.le_of_ble_eq_true rfl)) dX12_movesAll_263 ⟨Nat.le_of_ble_eq_true rfl, Nat.le_of_ble_eq_true rfl⟩) hS (fun q _ h => hFc q h) hFc (fun r_155 u t H1 locs ht hvm hw hB hz1 hk1 hS => ?_)
  obtain ⟨f_154, hP1, hK1, hD1⟩ := hB
  rw [ht] at hP1
  have hK1 := va_K.moved hvm.symm hK1
  obtain ⟨hP, hD⟩ := va_join (wr := [((r 4), .inl ((kf 4), 24, .inl (fun _ => 0))), ((r 0), .inl ((kf 0), 6, .inl f_24)), ((r 1), .inl ((kf 1), 36, .inl f_27)), ((r 2), .inl ((kf 2), 24, .inl f_30)), ((r 3), .inl ((kf 3), 24, .inl f_33)), ((r 5), .inl ((kf 5), 24, .inl f_36)), ((r 6), .inl ((kf 6), 24, .inl f_39)), ((r 7), .inl ((kf 7), 24, .inl f_42)), ((r 8), .inl ((kf 8), 8, .inl f_45)), ((r 9), .inl ((kf 9), 8, .inl f_48)), ((r 10), .inl ((kf 10), 8, .inl f_51)), ((r 11), .inl ((kf 11), 8, .inl f_54))]) (w1 := [(h0, .inr (12, fsMk r (nI (220 + 1)) 1)), ((r 12), .inl ((kf 12), 300, .inl f_154))]) hP hD [12, 13] [0, 1, 2, 3, 4, 5, 6, 7, 8, 9, 10, 11] rfl rfl (by decide) (by decide) hk1 hFc hP1 hD1
  generalize H1 = H at hP hS ⊢
  have hP : va_P (dC, dI) vwCl [((r 4), .inl ((kf 4), 24, .inl (fun _ => 0))), ((r 0), .inl ((kf 0), 6, .inl f_24)), ((r 1), .inl ((kf 1), 36, .inl f_27)), ((r 2), .inl ((kf 2), 24, .inl f_30)), ((r 3), .inl ((kf 3), 24, .inl f_33)), ((r 5), .inl ((kf 5), 24, .inl f_36)), ((r 6), .inl ((kf 6), 24, .inl f_39)), ((r 7), .inl ((kf 7), 24, .inl f_42)), ((r 8), .inl ((kf 8), 8, .inl f_45)), ((r 9), .inl ((kf 9), 8, .inl f_48)), ((r 10), .inl ((kf 10), 8, .inl f_51)), ((r 11), .inl ((kf 11), 8, .inl f_54)), (h0, .inr (12, fsMk r (nI (220 + 1)) 1)), ((r 12), .inl ((kf 12), 300, .inl f_154))] H := hP
  have hD : va_D A [((r 4), .inl ((kf 4), 24, .inl (fun _ => 0))), ((r 0), .inl ((kf 0), 6, .inl f_24)), ((r 1), .inl ((kf 1), 36, .inl f_27)), ((r 2), .inl ((kf 2), 24, .inl f_30)), ((r 3), .inl ((kf 3), 24, .inl f_33)), ((r 5), .inl ((kf 5), 24, .inl f_36)), ((r 6), .inl ((kf 6), 24, .inl f_39)), ((r 7), .inl ((kf 7), 24, .inl f_42)), ((r 8), .inl ((kf 8), 8, .inl f_45)), ((r 9), .inl ((kf 9), 8, .inl f_48)), ((r 10), .inl ((kf 10), 8, .inl f_51)), ((r 11), .inl ((kf 11), 8, .inl f_54)), (h0, .inr (12, fsMk r (nI (220 + 1)) 1)), ((r 12), .inl ((kf 12), 300, .inl f_154))] := hD
  subst hw
  have hP : va_P (dC, dI) vwCl [((r 4), .inl ((kf 4), 24, .inl (fun _ => 0))), ((r 0), .inl ((kf 0), 6, .inl f_24)), ((r 1), .inl ((kf 1), 36, .inl f_27)), ((r 2), .inl ((kf 2), 24, .inl f_30)), ((r 3), .inl ((kf 3), 24, .inl f_33)), ((r 5), .inl ((kf 5), 24, .inl f_36)), ((r 6), .inl ((kf 6), 24, .inl f_39)), ((r 7), .inl ((kf 7), 24, .inl f_42)), ((r 8), .inl ((kf 8), 8, .inl f_45)), ((r 9), .inl ((kf 9), 8, .inl f_48)), ((r 10), .inl ((kf 10), 8, .inl f_51)), ((r 11), .inl ((kf 11), 8, .inl f_54)), (h0, .inr (12, fsMk r (nI 221) 1)), ((r 12), .inl ((kf 12), 300, .inl f_154))] H := hP
  have hD : va_D A [((r 4), .inl ((kf 4), 24, .inl (fun _ => 0))), ((r 0), .inl ((kf 0), 6, .inl f_24)), ((r 1), .inl ((kf 1), 36, .inl f_27)), ((r 2), .inl ((kf 2), 24, .inl f_30)), ((r 3), .inl ((kf 3), 24, .inl f_33)), ((r 5), .inl ((kf 5), 24, .inl f_36)), ((r 6), .inl ((kf 6), 24, .inl f_39)), ((r 7), .inl ((kf 7), 24, .inl f_42)), ((r 8), .inl ((kf 8), 8, .inl f_45)), ((r 9), .inl ((kf 9), 8, .inl f_48)), ((r 10), .inl ((kf 10), 8, .inl f_51)), ((r 11), .inl ((kf 11), 8, .inl f_54)), (h0, .inr (12, fsMk r (nI 221) 1)), ((r 12), .inl ((kf 12), 300, .inl f_154))] := hD
  refine lv_iconst (v := 1) hx hb dX12_movesAll_266 (by decide) ?_
  refine lv_icmp_ne (tgt := 274) hx hb dX12_movesAll_267 (by decide) (fun c_156 => ?_) (fun c_156 => absurd c_156 (by decide))
  refine lv_iconst (v := 0) hx hb dX12_movesAll_274 (by decide) ?_
  refine va_zast hx hb hK hP hD hS 0 11 rfl rfl (by unfold vp_in; decide) dX12_movesAll_275 (fun H locs hP hD hS => ?_)
  have hP : va_P (dC, dI) vwCl [((r 4), .inl ((kf 4), 24, .inl (upd (fun _ => 0) (16 : Int32).toNatClampNeg (vp_nar .boolean 0)))), ((r 0), .inl ((kf 0), 6, .inl f_24)), ((r 1), .inl ((kf 1), 36, .inl f_27)), ((r 2), .inl ((kf 2), 24, .inl f_30)), ((r 3), .inl ((kf 3), 24, .inl f_33)), ((r 5), .inl ((kf 5), 24, .inl f_36)), ((r 6), .inl ((kf 6), 24, .inl f_39)), ((r 7), .inl ((kf 7), 24, .inl f_42)), ((r 8), .inl ((kf 8), 8, .inl f_45)), ((r 9), .inl ((kf 9), 8, .inl f_48)), ((r 10), .inl ((kf 10), 8, .inl f_51)), ((r 11), .inl ((kf 11), 8, .inl f_54)), (h0, .inr (12, fsMk r (nI 221) 1)), ((r 12), .inl ((kf 12), 300, .inl f_154))] H := hP
  have hD : va_D A [((r 4), .inl ((kf 4), 24, .inl (upd (fun _ => 0) (16 : Int32).toNatClampNeg (vp_nar .boolean 0)))), ((r 0), .inl ((kf 0), 6, .inl f_24)), ((r 1), .inl ((kf 1), 36, .inl f_27)), ((r 2), .inl ((kf 2), 24, .inl f_30)), ((r 3), .inl ((kf 3), 24, .inl f_33)), ((r 5), .inl ((kf 5), 24, .inl f_36)), ((r 6), .inl ((kf 6), 24, .inl f_39)), ((r 7), .inl ((kf 7), 24, .inl f_42)), ((r 8), .inl ((kf 8), 8, .inl f_45)), ((r 9), .inl ((kf 9), 8, .inl f_48)), ((r 10), .inl ((kf 10), 8, .inl f_51)), ((r 11), .inl ((kf 11), 8, .inl f_54)), (h0, .inr (12, fsMk r (nI 221) 1)), ((r 12), .inl ((kf 12), 300, .inl f_154))] := hD
  rw [gz_upd0z] at hP hD
  refine lv_iinc (v := 17) (lv' := [(2, .int 17), (0, .ref h0), (1, .int 1)]) hx hb dX12_movesAll_276 hl (k := 0) rfl (by decide) (by decide) rfl (fun ls hl => ?_)
  refine lv_goto (tgt := 237) hx hb dX12_movesAll_279 (by decide) ?_
  refine lv_iload_n hx hb dX12_movesAll_237 rfl (lv_at hl 0 rfl) ?_
  refine lv_bipush (v := 24) hx hb dX12_movesAll_238 (by decide) ?_
  refine lv_icmp_ge (tgt := 282) hx hb dX12_movesAll_240 (by decide) (fun c_158 => absurd c_158 (by decide)) (fun c_158 => ?_)
  refine lv_aload_n hx hb dX12_movesAll_243 rfl (lv_at hl 1 rfl) ?_
  refine va_get (D := (dC, dI)) (ci := 12) (v := .ref (r 4)) (C := RX12) (T := TX12) (N := 57) hx hb hts (fun w h => List.mem_cons_of_mem _ (jnGB_X12 w h)) hown hK hP 12 rfl rfl 13 (by decide) (hts _ (List.mem_cons_of_mem _ mGB_43)) (fun _ h9 => h9) rfl dX12_movesAll_244 ?_
  refine lv_iload_n hx hb dX12_movesAll_247 rfl (lv_at hl 0 rfl) ?_
  refine lv_aload_n hx hb dX12_movesAll_248 rfl (lv_at hl 1 rfl) ?_
  refine lv_aload_n hx hb dX12_movesAll_249 rfl (lv_at hl 1 rfl) ?_
  refine va_get (D := (dC, dI)) (ci := 12) (v := .ref (r 4)) (C := RX12) (T := TX12) (N := 57) hx hb hts (fun w h => List.mem_cons_of_mem _ (jnGB_X12 w h)) hown hK hP 12 rfl rfl 13 (by decide) (hts _ (List.mem_cons_of_mem _ mGB_43)) (fun _ h9 => h9) rfl dX12_movesAll_250 ?_
  refine lv_iload_n hx hb dX12_movesAll_253 rfl (lv_at hl 0 rfl) ?_
  refine va_zald hx hb hK hP 0 11 rfl rfl (by unfold vp_in; decide) dX12_movesAll_254 ?_
  refine gz_topi (y := 0) rfl ?_
  refine lv_if_eq (tgt := 262) hx hb dX12_movesAll_255 (by decide) (fun c_159 => ?_) (fun c_159 => absurd (by decide) c_159)
  refine lv_iconst (v := 0) hx hb dX12_movesAll_262 (by decide) ?_
  have hP : va_P (dC, dI) vwCl [((r 4), .inl ((kf 4), 24, .inl (fun _ => 0))), ((r 0), .inl ((kf 0), 6, .inl f_24)), ((r 1), .inl ((kf 1), 36, .inl f_27)), ((r 2), .inl ((kf 2), 24, .inl f_30)), ((r 3), .inl ((kf 3), 24, .inl f_33)), ((r 5), .inl ((kf 5), 24, .inl f_36)), ((r 6), .inl ((kf 6), 24, .inl f_39)), ((r 7), .inl ((kf 7), 24, .inl f_42)), ((r 8), .inl ((kf 8), 8, .inl f_45)), ((r 9), .inl ((kf 9), 8, .inl f_48)), ((r 10), .inl ((kf 10), 8, .inl f_51)), ((r 11), .inl ((kf 11), 8, .inl f_54)), (h0, .inr (12, fsMk r (nI 221) 1)), ((r 12), .inl ((kf 12), 300, .inl f_154))] H := hP
  have hD : va_D A [((r 4), .inl ((kf 4), 24, .inl (fun _ => 0))), ((r 0), .inl ((kf 0), 6, .inl f_24)), ((r 1), .inl ((kf 1), 36, .inl f_27)), ((r 2), .inl ((kf 2), 24, .inl f_30)), ((r 3), .inl ((kf 3), 24, .inl f_33)), ((r 5), .inl ((kf 5), 24, .inl f_36)), ((r 6), .inl ((kf 6), 24, .inl f_39)), ((r 7), .inl ((kf 7), 24, .inl f_42)), ((r 8), .inl ((kf 8), 8, .inl f_45)), ((r 9), .inl ((kf 9), 8, .inl f_48)), ((r 10), .inl ((kf 10), 8, .inl f_51)), ((r 11), .inl ((kf 11), 8, .inl f_54)), (h0, .inr (12, fsMk r (nI 221) 1)), ((r 12), .inl ((kf 12), 300, .inl f_154))] := hD
  have hPc := hP.sub (ws' := [(h0, .inr (12, fsMk r (nI 221) 1)), ((r 12), .inl ((kf 12), 300, .inl f_154))]) [12, 13] rfl
  have hDc := hD.sub (ws' := [(h0, .inr (12, fsMk r (nI 221) 1)), ((r 12), .inl ((kf 12), 300, .inl f_154))]) [12, 13] (by decide) rfl
  have hKc := hK.sub (tys' := [((kf 12), .int)]) [12] rfl
  have hFc := va_free (wc := [(h0, .inr (12, fsMk r (nI 221) 1)), ((r 12), .inl ((kf 12), 300, .inl f_154))]) hD hS hA [12, 13] rfl
  refine va_calli (va_runV (As := [.int 0]) (rest := [.int 17, .ref (r 4)]) ⟨hx, hb, hml, hown, hts⟩ (fX12_moves l dC dI H.size h0 r kf 221 f_154 0 (by decide)) (cwV 1 hts (gz_gV mGB_70 mGB_71 mGB_72 mGB_5 mGB_69 goodGB) rfl rfl rfl (by decide +kernel) ⟨Nat.le_of_ble_eq_true rfl, Nat.le_of_ble_eq_true rfl⟩) ⟨fun a U g mk q => by obtain ⟨q0, q1, qP, qK, qD⟩ := q; exact ⟨q0, q1, qP, va_K.moved (u := U) (U := U.calling g mk a) (Vm.Alike.refl U.vm) qK, qD⟩, va_recv hKc hPc (ci := 12) (q0 := 0) rfl rfl, fun U hU hW => ⟨rfl, by rw [hU], by rw [hU]; exact hPc, va_K.moved hW.alike hKc, hDc.weaken (fun _ _ _ _ => trivial)⟩⟩ rfl rfl hl.1 rfl (lv_room (Nat.le_of_ble_eq_true rfl)) dX12_movesAll_263 ⟨Nat.le_of_ble_eq_true rfl, Nat.le_of_ble_eq_true rfl⟩) hS (fun q _ h => hFc q h) hFc (fun r_161 u t H1 locs ht hvm hw hB hz1 hk1 hS => ?_)
  obtain ⟨f_160, hP1, hK1, hD1⟩ := hB
  rw [ht] at hP1
  have hK1 := va_K.moved hvm.symm hK1
  obtain ⟨hP, hD⟩ := va_join (wr := [((r 4), .inl ((kf 4), 24, .inl (fun _ => 0))), ((r 0), .inl ((kf 0), 6, .inl f_24)), ((r 1), .inl ((kf 1), 36, .inl f_27)), ((r 2), .inl ((kf 2), 24, .inl f_30)), ((r 3), .inl ((kf 3), 24, .inl f_33)), ((r 5), .inl ((kf 5), 24, .inl f_36)), ((r 6), .inl ((kf 6), 24, .inl f_39)), ((r 7), .inl ((kf 7), 24, .inl f_42)), ((r 8), .inl ((kf 8), 8, .inl f_45)), ((r 9), .inl ((kf 9), 8, .inl f_48)), ((r 10), .inl ((kf 10), 8, .inl f_51)), ((r 11), .inl ((kf 11), 8, .inl f_54))]) (w1 := [(h0, .inr (12, fsMk r (nI (221 + 1)) 1)), ((r 12), .inl ((kf 12), 300, .inl f_160))]) hP hD [12, 13] [0, 1, 2, 3, 4, 5, 6, 7, 8, 9, 10, 11] rfl rfl (by decide) (by decide) hk1 hFc hP1 hD1
  generalize H1 = H at hP hS ⊢
  have hP : va_P (dC, dI) vwCl [((r 4), .inl ((kf 4), 24, .inl (fun _ => 0))), ((r 0), .inl ((kf 0), 6, .inl f_24)), ((r 1), .inl ((kf 1), 36, .inl f_27)), ((r 2), .inl ((kf 2), 24, .inl f_30)), ((r 3), .inl ((kf 3), 24, .inl f_33)), ((r 5), .inl ((kf 5), 24, .inl f_36)), ((r 6), .inl ((kf 6), 24, .inl f_39)), ((r 7), .inl ((kf 7), 24, .inl f_42)), ((r 8), .inl ((kf 8), 8, .inl f_45)), ((r 9), .inl ((kf 9), 8, .inl f_48)), ((r 10), .inl ((kf 10), 8, .inl f_51)), ((r 11), .inl ((kf 11), 8, .inl f_54)), (h0, .inr (12, fsMk r (nI (221 + 1)) 1)), ((r 12), .inl ((kf 12), 300, .inl f_160))] H := hP
  have hD : va_D A [((r 4), .inl ((kf 4), 24, .inl (fun _ => 0))), ((r 0), .inl ((kf 0), 6, .inl f_24)), ((r 1), .inl ((kf 1), 36, .inl f_27)), ((r 2), .inl ((kf 2), 24, .inl f_30)), ((r 3), .inl ((kf 3), 24, .inl f_33)), ((r 5), .inl ((kf 5), 24, .inl f_36)), ((r 6), .inl ((kf 6), 24, .inl f_39)), ((r 7), .inl ((kf 7), 24, .inl f_42)), ((r 8), .inl ((kf 8), 8, .inl f_45)), ((r 9), .inl ((kf 9), 8, .inl f_48)), ((r 10), .inl ((kf 10), 8, .inl f_51)), ((r 11), .inl ((kf 11), 8, .inl f_54)), (h0, .inr (12, fsMk r (nI (221 + 1)) 1)), ((r 12), .inl ((kf 12), 300, .inl f_160))] := hD
  subst hw
  have hP : va_P (dC, dI) vwCl [((r 4), .inl ((kf 4), 24, .inl (fun _ => 0))), ((r 0), .inl ((kf 0), 6, .inl f_24)), ((r 1), .inl ((kf 1), 36, .inl f_27)), ((r 2), .inl ((kf 2), 24, .inl f_30)), ((r 3), .inl ((kf 3), 24, .inl f_33)), ((r 5), .inl ((kf 5), 24, .inl f_36)), ((r 6), .inl ((kf 6), 24, .inl f_39)), ((r 7), .inl ((kf 7), 24, .inl f_42)), ((r 8), .inl ((kf 8), 8, .inl f_45)), ((r 9), .inl ((kf 9), 8, .inl f_48)), ((r 10), .inl ((kf 10), 8, .inl f_51)), ((r 11), .inl ((kf 11), 8, .inl f_54)), (h0, .inr (12, fsMk r (nI 222) 1)), ((r 12), .inl ((kf 12), 300, .inl f_160))] H := hP
  have hD : va_D A [((r 4), .inl ((kf 4), 24, .inl (fun _ => 0))), ((r 0), .inl ((kf 0), 6, .inl f_24)), ((r 1), .inl ((kf 1), 36, .inl f_27)), ((r 2), .inl ((kf 2), 24, .inl f_30)), ((r 3), .inl ((kf 3), 24, .inl f_33)), ((r 5), .inl ((kf 5), 24, .inl f_36)), ((r 6), .inl ((kf 6), 24, .inl f_39)), ((r 7), .inl ((kf 7), 24, .inl f_42)), ((r 8), .inl ((kf 8), 8, .inl f_45)), ((r 9), .inl ((kf 9), 8, .inl f_48)), ((r 10), .inl ((kf 10), 8, .inl f_51)), ((r 11), .inl ((kf 11), 8, .inl f_54)), (h0, .inr (12, fsMk r (nI 222) 1)), ((r 12), .inl ((kf 12), 300, .inl f_160))] := hD
  refine lv_iconst (v := 1) hx hb dX12_movesAll_266 (by decide) ?_
  refine lv_icmp_ne (tgt := 274) hx hb dX12_movesAll_267 (by decide) (fun c_162 => ?_) (fun c_162 => absurd c_162 (by decide))
  refine lv_iconst (v := 0) hx hb dX12_movesAll_274 (by decide) ?_
  refine va_zast hx hb hK hP hD hS 0 11 rfl rfl (by unfold vp_in; decide) dX12_movesAll_275 (fun H locs hP hD hS => ?_)
  have hP : va_P (dC, dI) vwCl [((r 4), .inl ((kf 4), 24, .inl (upd (fun _ => 0) (17 : Int32).toNatClampNeg (vp_nar .boolean 0)))), ((r 0), .inl ((kf 0), 6, .inl f_24)), ((r 1), .inl ((kf 1), 36, .inl f_27)), ((r 2), .inl ((kf 2), 24, .inl f_30)), ((r 3), .inl ((kf 3), 24, .inl f_33)), ((r 5), .inl ((kf 5), 24, .inl f_36)), ((r 6), .inl ((kf 6), 24, .inl f_39)), ((r 7), .inl ((kf 7), 24, .inl f_42)), ((r 8), .inl ((kf 8), 8, .inl f_45)), ((r 9), .inl ((kf 9), 8, .inl f_48)), ((r 10), .inl ((kf 10), 8, .inl f_51)), ((r 11), .inl ((kf 11), 8, .inl f_54)), (h0, .inr (12, fsMk r (nI 222) 1)), ((r 12), .inl ((kf 12), 300, .inl f_160))] H := hP
  have hD : va_D A [((r 4), .inl ((kf 4), 24, .inl (upd (fun _ => 0) (17 : Int32).toNatClampNeg (vp_nar .boolean 0)))), ((r 0), .inl ((kf 0), 6, .inl f_24)), ((r 1), .inl ((kf 1), 36, .inl f_27)), ((r 2), .inl ((kf 2), 24, .inl f_30)), ((r 3), .inl ((kf 3), 24, .inl f_33)), ((r 5), .inl ((kf 5), 24, .inl f_36)), ((r 6), .inl ((kf 6), 24, .inl f_39)), ((r 7), .inl ((kf 7), 24, .inl f_42)), ((r 8), .inl ((kf 8), 8, .inl f_45)), ((r 9), .inl ((kf 9), 8, .inl f_48)), ((r 10), .inl ((kf 10), 8, .inl f_51)), ((r 11), .inl ((kf 11), 8, .inl f_54)), (h0, .inr (12, fsMk r (nI 222) 1)), ((r 12), .inl ((kf 12), 300, .inl f_160))] := hD
  rw [gz_upd0z] at hP hD
  refine lv_iinc (v := 18) (lv' := [(2, .int 18), (0, .ref h0), (1, .int 1)]) hx hb dX12_movesAll_276 hl (k := 0) rfl (by decide) (by decide) rfl (fun ls hl => ?_)
  refine lv_goto (tgt := 237) hx hb dX12_movesAll_279 (by decide) ?_
  refine lv_iload_n hx hb dX12_movesAll_237 rfl (lv_at hl 0 rfl) ?_
  refine lv_bipush (v := 24) hx hb dX12_movesAll_238 (by decide) ?_
  refine lv_icmp_ge (tgt := 282) hx hb dX12_movesAll_240 (by decide) (fun c_164 => absurd c_164 (by decide)) (fun c_164 => ?_)
  refine lv_aload_n hx hb dX12_movesAll_243 rfl (lv_at hl 1 rfl) ?_
  refine va_get (D := (dC, dI)) (ci := 12) (v := .ref (r 4)) (C := RX12) (T := TX12) (N := 57) hx hb hts (fun w h => List.mem_cons_of_mem _ (jnGB_X12 w h)) hown hK hP 12 rfl rfl 13 (by decide) (hts _ (List.mem_cons_of_mem _ mGB_43)) (fun _ h9 => h9) rfl dX12_movesAll_244 ?_
  refine lv_iload_n hx hb dX12_movesAll_247 rfl (lv_at hl 0 rfl) ?_
  refine lv_aload_n hx hb dX12_movesAll_248 rfl (lv_at hl 1 rfl) ?_
  refine lv_aload_n hx hb dX12_movesAll_249 rfl (lv_at hl 1 rfl) ?_
  refine va_get (D := (dC, dI)) (ci := 12) (v := .ref (r 4)) (C := RX12) (T := TX12) (N := 57) hx hb hts (fun w h => List.mem_cons_of_mem _ (jnGB_X12 w h)) hown hK hP 12 rfl rfl 13 (by decide) (hts _ (List.mem_cons_of_mem _ mGB_43)) (fun _ h9 => h9) rfl dX12_movesAll_250 ?_
  refine lv_iload_n hx hb dX12_movesAll_253 rfl (lv_at hl 0 rfl) ?_
  refine va_zald hx hb hK hP 0 11 rfl rfl (by unfold vp_in; decide) dX12_movesAll_254 ?_
  refine gz_topi (y := 0) rfl ?_
  refine lv_if_eq (tgt := 262) hx hb dX12_movesAll_255 (by decide) (fun c_165 => ?_) (fun c_165 => absurd (by decide) c_165)
  refine lv_iconst (v := 0) hx hb dX12_movesAll_262 (by decide) ?_
  have hP : va_P (dC, dI) vwCl [((r 4), .inl ((kf 4), 24, .inl (fun _ => 0))), ((r 0), .inl ((kf 0), 6, .inl f_24)), ((r 1), .inl ((kf 1), 36, .inl f_27)), ((r 2), .inl ((kf 2), 24, .inl f_30)), ((r 3), .inl ((kf 3), 24, .inl f_33)), ((r 5), .inl ((kf 5), 24, .inl f_36)), ((r 6), .inl ((kf 6), 24, .inl f_39)), ((r 7), .inl ((kf 7), 24, .inl f_42)), ((r 8), .inl ((kf 8), 8, .inl f_45)), ((r 9), .inl ((kf 9), 8, .inl f_48)), ((r 10), .inl ((kf 10), 8, .inl f_51)), ((r 11), .inl ((kf 11), 8, .inl f_54)), (h0, .inr (12, fsMk r (nI 222) 1)), ((r 12), .inl ((kf 12), 300, .inl f_160))] H := hP
  have hD : va_D A [((r 4), .inl ((kf 4), 24, .inl (fun _ => 0))), ((r 0), .inl ((kf 0), 6, .inl f_24)), ((r 1), .inl ((kf 1), 36, .inl f_27)), ((r 2), .inl ((kf 2), 24, .inl f_30)), ((r 3), .inl ((kf 3), 24, .inl f_33)), ((r 5), .inl ((kf 5), 24, .inl f_36)), ((r 6), .inl ((kf 6), 24, .inl f_39)), ((r 7), .inl ((kf 7), 24, .inl f_42)), ((r 8), .inl ((kf 8), 8, .inl f_45)), ((r 9), .inl ((kf 9), 8, .inl f_48)), ((r 10), .inl ((kf 10), 8, .inl f_51)), ((r 11), .inl ((kf 11), 8, .inl f_54)), (h0, .inr (12, fsMk r (nI 222) 1)), ((r 12), .inl ((kf 12), 300, .inl f_160))] := hD
  have hPc := hP.sub (ws' := [(h0, .inr (12, fsMk r (nI 222) 1)), ((r 12), .inl ((kf 12), 300, .inl f_160))]) [12, 13] rfl
  have hDc := hD.sub (ws' := [(h0, .inr (12, fsMk r (nI 222) 1)), ((r 12), .inl ((kf 12), 300, .inl f_160))]) [12, 13] (by decide) rfl
  have hKc := hK.sub (tys' := [((kf 12), .int)]) [12] rfl
  have hFc := va_free (wc := [(h0, .inr (12, fsMk r (nI 222) 1)), ((r 12), .inl ((kf 12), 300, .inl f_160))]) hD hS hA [12, 13] rfl
  refine va_calli (va_runV (As := [.int 0]) (rest := [.int 18, .ref (r 4)]) ⟨hx, hb, hml, hown, hts⟩ (fX12_moves l dC dI H.size h0 r kf 222 f_160 0 (by decide)) (cwV 1 hts (gz_gV mGB_70 mGB_71 mGB_72 mGB_5 mGB_69 goodGB) rfl rfl rfl (by decide +kernel) ⟨Nat.le_of_ble_eq_true rfl, Nat.le_of_ble_eq_true rfl⟩) ⟨fun a U g mk q => by obtain ⟨q0, q1, qP, qK, qD⟩ := q; exact ⟨q0, q1, qP, va_K.moved (u := U) (U := U.calling g mk a) (Vm.Alike.refl U.vm) qK, qD⟩, va_recv hKc hPc (ci := 12) (q0 := 0) rfl rfl, fun U hU hW => ⟨rfl, by rw [hU], by rw [hU]; exact hPc, va_K.moved hW.alike hKc, hDc.weaken (fun _ _ _ _ => trivial)⟩⟩ rfl rfl hl.1 rfl (lv_room (Nat.le_of_ble_eq_true rfl)) dX12_movesAll_263 ⟨Nat.le_of_ble_eq_true rfl, Nat.le_of_ble_eq_true rfl⟩) hS (fun q _ h => hFc q h) hFc (fun r_167 u t H1 locs ht hvm hw hB hz1 hk1 hS => ?_)
  obtain ⟨f_166, hP1, hK1, hD1⟩ := hB
  rw [ht] at hP1
  have hK1 := va_K.moved hvm.symm hK1
  obtain ⟨hP, hD⟩ := va_join (wr := [((r 4), .inl ((kf 4), 24, .inl (fun _ => 0))), ((r 0), .inl ((kf 0), 6, .inl f_24)), ((r 1), .inl ((kf 1), 36, .inl f_27)), ((r 2), .inl ((kf 2), 24, .inl f_30)), ((r 3), .inl ((kf 3), 24, .inl f_33)), ((r 5), .inl ((kf 5), 24, .inl f_36)), ((r 6), .inl ((kf 6), 24, .inl f_39)), ((r 7), .inl ((kf 7), 24, .inl f_42)), ((r 8), .inl ((kf 8), 8, .inl f_45)), ((r 9), .inl ((kf 9), 8, .inl f_48)), ((r 10), .inl ((kf 10), 8, .inl f_51)), ((r 11), .inl ((kf 11), 8, .inl f_54))]) (w1 := [(h0, .inr (12, fsMk r (nI (222 + 1)) 1)), ((r 12), .inl ((kf 12), 300, .inl f_166))]) hP hD [12, 13] [0, 1, 2, 3, 4, 5, 6, 7, 8, 9, 10, 11] rfl rfl (by decide) (by decide) hk1 hFc hP1 hD1
  generalize H1 = H at hP hS ⊢
  have hP : va_P (dC, dI) vwCl [((r 4), .inl ((kf 4), 24, .inl (fun _ => 0))), ((r 0), .inl ((kf 0), 6, .inl f_24)), ((r 1), .inl ((kf 1), 36, .inl f_27)), ((r 2), .inl ((kf 2), 24, .inl f_30)), ((r 3), .inl ((kf 3), 24, .inl f_33)), ((r 5), .inl ((kf 5), 24, .inl f_36)), ((r 6), .inl ((kf 6), 24, .inl f_39)), ((r 7), .inl ((kf 7), 24, .inl f_42)), ((r 8), .inl ((kf 8), 8, .inl f_45)), ((r 9), .inl ((kf 9), 8, .inl f_48)), ((r 10), .inl ((kf 10), 8, .inl f_51)), ((r 11), .inl ((kf 11), 8, .inl f_54)), (h0, .inr (12, fsMk r (nI (222 + 1)) 1)), ((r 12), .inl ((kf 12), 300, .inl f_166))] H := hP
  have hD : va_D A [((r 4), .inl ((kf 4), 24, .inl (fun _ => 0))), ((r 0), .inl ((kf 0), 6, .inl f_24)), ((r 1), .inl ((kf 1), 36, .inl f_27)), ((r 2), .inl ((kf 2), 24, .inl f_30)), ((r 3), .inl ((kf 3), 24, .inl f_33)), ((r 5), .inl ((kf 5), 24, .inl f_36)), ((r 6), .inl ((kf 6), 24, .inl f_39)), ((r 7), .inl ((kf 7), 24, .inl f_42)), ((r 8), .inl ((kf 8), 8, .inl f_45)), ((r 9), .inl ((kf 9), 8, .inl f_48)), ((r 10), .inl ((kf 10), 8, .inl f_51)), ((r 11), .inl ((kf 11), 8, .inl f_54)), (h0, .inr (12, fsMk r (nI (222 + 1)) 1)), ((r 12), .inl ((kf 12), 300, .inl f_166))] := hD
  subst hw
  have hP : va_P (dC, dI) vwCl [((r 4), .inl ((kf 4), 24, .inl (fun _ => 0))), ((r 0), .inl ((kf 0), 6, .inl f_24)), ((r 1), .inl ((kf 1), 36, .inl f_27)), ((r 2), .inl ((kf 2), 24, .inl f_30)), ((r 3), .inl ((kf 3), 24, .inl f_33)), ((r 5), .inl ((kf 5), 24, .inl f_36)), ((r 6), .inl ((kf 6), 24, .inl f_39)), ((r 7), .inl ((kf 7), 24, .inl f_42)), ((r 8), .inl ((kf 8), 8, .inl f_45)), ((r 9), .inl ((kf 9), 8, .inl f_48)), ((r 10), .inl ((kf 10), 8, .inl f_51)), ((r 11), .inl ((kf 11), 8, .inl f_54)), (h0, .inr (12, fsMk r (nI 223) 1)), ((r 12), .inl ((kf 12), 300, .inl f_166))] H := hP
  have hD : va_D A [((r 4), .inl ((kf 4), 24, .inl (fun _ => 0))), ((r 0), .inl ((kf 0), 6, .inl f_24)), ((r 1), .inl ((kf 1), 36, .inl f_27)), ((r 2), .inl ((kf 2), 24, .inl f_30)), ((r 3), .inl ((kf 3), 24, .inl f_33)), ((r 5), .inl ((kf 5), 24, .inl f_36)), ((r 6), .inl ((kf 6), 24, .inl f_39)), ((r 7), .inl ((kf 7), 24, .inl f_42)), ((r 8), .inl ((kf 8), 8, .inl f_45)), ((r 9), .inl ((kf 9), 8, .inl f_48)), ((r 10), .inl ((kf 10), 8, .inl f_51)), ((r 11), .inl ((kf 11), 8, .inl f_54)), (h0, .inr (12, fsMk r (nI 223) 1)), ((r 12), .inl ((kf 12), 300, .inl f_166))] := hD
  refine lv_iconst (v := 1) hx hb dX12_movesAll_266 (by decide) ?_
  refine lv_icmp_ne (tgt := 274) hx hb dX12_movesAll_267 (by decide) (fun c_168 => ?_) (fun c_168 => absurd c_168 (by decide))
  refine lv_iconst (v := 0) hx hb dX12_movesAll_274 (by decide) ?_
  refine va_zast hx hb hK hP hD hS 0 11 rfl rfl (by unfold vp_in; decide) dX12_movesAll_275 (fun H locs hP hD hS => ?_)
  have hP : va_P (dC, dI) vwCl [((r 4), .inl ((kf 4), 24, .inl (upd (fun _ => 0) (18 : Int32).toNatClampNeg (vp_nar .boolean 0)))), ((r 0), .inl ((kf 0), 6, .inl f_24)), ((r 1), .inl ((kf 1), 36, .inl f_27)), ((r 2), .inl ((kf 2), 24, .inl f_30)), ((r 3), .inl ((kf 3), 24, .inl f_33)), ((r 5), .inl ((kf 5), 24, .inl f_36)), ((r 6), .inl ((kf 6), 24, .inl f_39)), ((r 7), .inl ((kf 7), 24, .inl f_42)), ((r 8), .inl ((kf 8), 8, .inl f_45)), ((r 9), .inl ((kf 9), 8, .inl f_48)), ((r 10), .inl ((kf 10), 8, .inl f_51)), ((r 11), .inl ((kf 11), 8, .inl f_54)), (h0, .inr (12, fsMk r (nI 223) 1)), ((r 12), .inl ((kf 12), 300, .inl f_166))] H := hP
  have hD : va_D A [((r 4), .inl ((kf 4), 24, .inl (upd (fun _ => 0) (18 : Int32).toNatClampNeg (vp_nar .boolean 0)))), ((r 0), .inl ((kf 0), 6, .inl f_24)), ((r 1), .inl ((kf 1), 36, .inl f_27)), ((r 2), .inl ((kf 2), 24, .inl f_30)), ((r 3), .inl ((kf 3), 24, .inl f_33)), ((r 5), .inl ((kf 5), 24, .inl f_36)), ((r 6), .inl ((kf 6), 24, .inl f_39)), ((r 7), .inl ((kf 7), 24, .inl f_42)), ((r 8), .inl ((kf 8), 8, .inl f_45)), ((r 9), .inl ((kf 9), 8, .inl f_48)), ((r 10), .inl ((kf 10), 8, .inl f_51)), ((r 11), .inl ((kf 11), 8, .inl f_54)), (h0, .inr (12, fsMk r (nI 223) 1)), ((r 12), .inl ((kf 12), 300, .inl f_166))] := hD
  rw [gz_upd0z] at hP hD
  refine lv_iinc (v := 19) (lv' := [(2, .int 19), (0, .ref h0), (1, .int 1)]) hx hb dX12_movesAll_276 hl (k := 0) rfl (by decide) (by decide) rfl (fun ls hl => ?_)
  refine lv_goto (tgt := 237) hx hb dX12_movesAll_279 (by decide) ?_
  refine lv_iload_n hx hb dX12_movesAll_237 rfl (lv_at hl 0 rfl) ?_
  refine lv_bipush (v := 24) hx hb dX12_movesAll_238 (by decide) ?_
  refine lv_icmp_ge (tgt := 282) hx hb dX12_movesAll_240 (by decide) (fun c_170 => absurd c_170 (by decide)) (fun c_170 => ?_)
  refine lv_aload_n hx hb dX12_movesAll_243 rfl (lv_at hl 1 rfl) ?_
  refine va_get (D := (dC, dI)) (ci := 12) (v := .ref (r 4)) (C := RX12) (T := TX12) (N := 57) hx hb hts (fun w h => List.mem_cons_of_mem _ (jnGB_X12 w h)) hown hK hP 12 rfl rfl 13 (by decide) (hts _ (List.mem_cons_of_mem _ mGB_43)) (fun _ h9 => h9) rfl dX12_movesAll_244 ?_
  refine lv_iload_n hx hb dX12_movesAll_247 rfl (lv_at hl 0 rfl) ?_
  refine lv_aload_n hx hb dX12_movesAll_248 rfl (lv_at hl 1 rfl) ?_
  refine lv_aload_n hx hb dX12_movesAll_249 rfl (lv_at hl 1 rfl) ?_
  refine va_get (D := (dC, dI)) (ci := 12) (v := .ref (r 4)) (C := RX12) (T := TX12) (N := 57) hx hb hts (fun w h => List.mem_cons_of_mem _ (jnGB_X12 w h)) hown hK hP 12 rfl rfl 13 (by decide) (hts _ (List.mem_cons_of_mem _ mGB_43)) (fun _ h9 => h9) rfl dX12_movesAll_250 ?_
  refine lv_iload_n hx hb dX12_movesAll_253 rfl (lv_at hl 0 rfl) ?_
  refine va_zald hx hb hK hP 0 11 rfl rfl (by unfold vp_in; decide) dX12_movesAll_254 ?_
  refine gz_topi (y := 0) rfl ?_
  refine lv_if_eq (tgt := 262) hx hb dX12_movesAll_255 (by decide) (fun c_171 => ?_) (fun c_171 => absurd (by decide) c_171)
  refine lv_iconst (v := 0) hx hb dX12_movesAll_262 (by decide) ?_
  have hP : va_P (dC, dI) vwCl [((r 4), .inl ((kf 4), 24, .inl (fun _ => 0))), ((r 0), .inl ((kf 0), 6, .inl f_24)), ((r 1), .inl ((kf 1), 36, .inl f_27)), ((r 2), .inl ((kf 2), 24, .inl f_30)), ((r 3), .inl ((kf 3), 24, .inl f_33)), ((r 5), .inl ((kf 5), 24, .inl f_36)), ((r 6), .inl ((kf 6), 24, .inl f_39)), ((r 7), .inl ((kf 7), 24, .inl f_42)), ((r 8), .inl ((kf 8), 8, .inl f_45)), ((r 9), .inl ((kf 9), 8, .inl f_48)), ((r 10), .inl ((kf 10), 8, .inl f_51)), ((r 11), .inl ((kf 11), 8, .inl f_54)), (h0, .inr (12, fsMk r (nI 223) 1)), ((r 12), .inl ((kf 12), 300, .inl f_166))] H := hP
  have hD : va_D A [((r 4), .inl ((kf 4), 24, .inl (fun _ => 0))), ((r 0), .inl ((kf 0), 6, .inl f_24)), ((r 1), .inl ((kf 1), 36, .inl f_27)), ((r 2), .inl ((kf 2), 24, .inl f_30)), ((r 3), .inl ((kf 3), 24, .inl f_33)), ((r 5), .inl ((kf 5), 24, .inl f_36)), ((r 6), .inl ((kf 6), 24, .inl f_39)), ((r 7), .inl ((kf 7), 24, .inl f_42)), ((r 8), .inl ((kf 8), 8, .inl f_45)), ((r 9), .inl ((kf 9), 8, .inl f_48)), ((r 10), .inl ((kf 10), 8, .inl f_51)), ((r 11), .inl ((kf 11), 8, .inl f_54)), (h0, .inr (12, fsMk r (nI 223) 1)), ((r 12), .inl ((kf 12), 300, .inl f_166))] := hD
  have hPc := hP.sub (ws' := [(h0, .inr (12, fsMk r (nI 223) 1)), ((r 12), .inl ((kf 12), 300, .inl f_166))]) [12, 13] rfl
  have hDc := hD.sub (ws' := [(h0, .inr (12, fsMk r (nI 223) 1)), ((r 12), .inl ((kf 12), 300, .inl f_166))]) [12, 13] (by decide) rfl
  have hKc := hK.sub (tys' := [((kf 12), .int)]) [12] rfl
  have hFc := va_free (wc := [(h0, .inr (12, fsMk r (nI 223) 1)), ((r 12), .inl ((kf 12), 300, .inl f_166))]) hD hS hA [12, 13] rfl
  refine va_calli (va_runV (As := [.int 0]) (rest := [.int 19, .ref (r 4)]) ⟨hx, hb, hml, hown, hts⟩ (fX12_moves l dC dI H.size h0 r kf 223 f_166 0 (by decide)) (cwV 1 hts (gz_gV mGB_70 mGB_71 mGB_72 mGB_5 mGB_69 goodGB) rfl rfl rfl (by decide +kernel) ⟨Nat.le_of_ble_eq_true rfl, Nat.le_of_ble_eq_true rfl⟩) ⟨fun a U g mk q => by obtain ⟨q0, q1, qP, qK, qD⟩ := q; exact ⟨q0, q1, qP, va_K.moved (u := U) (U := U.calling g mk a) (Vm.Alike.refl U.vm) qK, qD⟩, va_recv hKc hPc (ci := 12) (q0 := 0) rfl rfl, fun U hU hW => ⟨rfl, by rw [hU], by rw [hU]; exact hPc, va_K.moved hW.alike hKc, hDc.weaken (fun _ _ _ _ => trivial)⟩⟩ rfl rfl hl.1 rfl (lv_room (Nat.le_of_ble_eq_true rfl)) dX12_movesAll_263 ⟨Nat.le_of_ble_eq_true rfl, Nat.le_of_ble_eq_true rfl⟩) hS (fun q _ h => hFc q h) hFc (fun r_173 u t H1 locs ht hvm hw hB hz1 hk1 hS => ?_)
  obtain ⟨f_172, hP1, hK1, hD1⟩ := hB
  rw [ht] at hP1
  have hK1 := va_K.moved hvm.symm hK1
  obtain ⟨hP, hD⟩ := va_join (wr := [((r 4), .inl ((kf 4), 24, .inl (fun _ => 0))), ((r 0), .inl ((kf 0), 6, .inl f_24)), ((r 1), .inl ((kf 1), 36, .inl f_27)), ((r 2), .inl ((kf 2), 24, .inl f_30)), ((r 3), .inl ((kf 3), 24, .inl f_33)), ((r 5), .inl ((kf 5), 24, .inl f_36)), ((r 6), .inl ((kf 6), 24, .inl f_39)), ((r 7), .inl ((kf 7), 24, .inl f_42)), ((r 8), .inl ((kf 8), 8, .inl f_45)), ((r 9), .inl ((kf 9), 8, .inl f_48)), ((r 10), .inl ((kf 10), 8, .inl f_51)), ((r 11), .inl ((kf 11), 8, .inl f_54))]) (w1 := [(h0, .inr (12, fsMk r (nI (223 + 1)) 1)), ((r 12), .inl ((kf 12), 300, .inl f_172))]) hP hD [12, 13] [0, 1, 2, 3, 4, 5, 6, 7, 8, 9, 10, 11] rfl rfl (by decide) (by decide) hk1 hFc hP1 hD1
  generalize H1 = H at hP hS ⊢
  have hP : va_P (dC, dI) vwCl [((r 4), .inl ((kf 4), 24, .inl (fun _ => 0))), ((r 0), .inl ((kf 0), 6, .inl f_24)), ((r 1), .inl ((kf 1), 36, .inl f_27)), ((r 2), .inl ((kf 2), 24, .inl f_30)), ((r 3), .inl ((kf 3), 24, .inl f_33)), ((r 5), .inl ((kf 5), 24, .inl f_36)), ((r 6), .inl ((kf 6), 24, .inl f_39)), ((r 7), .inl ((kf 7), 24, .inl f_42)), ((r 8), .inl ((kf 8), 8, .inl f_45)), ((r 9), .inl ((kf 9), 8, .inl f_48)), ((r 10), .inl ((kf 10), 8, .inl f_51)), ((r 11), .inl ((kf 11), 8, .inl f_54)), (h0, .inr (12, fsMk r (nI (223 + 1)) 1)), ((r 12), .inl ((kf 12), 300, .inl f_172))] H := hP
  have hD : va_D A [((r 4), .inl ((kf 4), 24, .inl (fun _ => 0))), ((r 0), .inl ((kf 0), 6, .inl f_24)), ((r 1), .inl ((kf 1), 36, .inl f_27)), ((r 2), .inl ((kf 2), 24, .inl f_30)), ((r 3), .inl ((kf 3), 24, .inl f_33)), ((r 5), .inl ((kf 5), 24, .inl f_36)), ((r 6), .inl ((kf 6), 24, .inl f_39)), ((r 7), .inl ((kf 7), 24, .inl f_42)), ((r 8), .inl ((kf 8), 8, .inl f_45)), ((r 9), .inl ((kf 9), 8, .inl f_48)), ((r 10), .inl ((kf 10), 8, .inl f_51)), ((r 11), .inl ((kf 11), 8, .inl f_54)), (h0, .inr (12, fsMk r (nI (223 + 1)) 1)), ((r 12), .inl ((kf 12), 300, .inl f_172))] := hD
  subst hw
  have hP : va_P (dC, dI) vwCl [((r 4), .inl ((kf 4), 24, .inl (fun _ => 0))), ((r 0), .inl ((kf 0), 6, .inl f_24)), ((r 1), .inl ((kf 1), 36, .inl f_27)), ((r 2), .inl ((kf 2), 24, .inl f_30)), ((r 3), .inl ((kf 3), 24, .inl f_33)), ((r 5), .inl ((kf 5), 24, .inl f_36)), ((r 6), .inl ((kf 6), 24, .inl f_39)), ((r 7), .inl ((kf 7), 24, .inl f_42)), ((r 8), .inl ((kf 8), 8, .inl f_45)), ((r 9), .inl ((kf 9), 8, .inl f_48)), ((r 10), .inl ((kf 10), 8, .inl f_51)), ((r 11), .inl ((kf 11), 8, .inl f_54)), (h0, .inr (12, fsMk r (nI 224) 1)), ((r 12), .inl ((kf 12), 300, .inl f_172))] H := hP
  have hD : va_D A [((r 4), .inl ((kf 4), 24, .inl (fun _ => 0))), ((r 0), .inl ((kf 0), 6, .inl f_24)), ((r 1), .inl ((kf 1), 36, .inl f_27)), ((r 2), .inl ((kf 2), 24, .inl f_30)), ((r 3), .inl ((kf 3), 24, .inl f_33)), ((r 5), .inl ((kf 5), 24, .inl f_36)), ((r 6), .inl ((kf 6), 24, .inl f_39)), ((r 7), .inl ((kf 7), 24, .inl f_42)), ((r 8), .inl ((kf 8), 8, .inl f_45)), ((r 9), .inl ((kf 9), 8, .inl f_48)), ((r 10), .inl ((kf 10), 8, .inl f_51)), ((r 11), .inl ((kf 11), 8, .inl f_54)), (h0, .inr (12, fsMk r (nI 224) 1)), ((r 12), .inl ((kf 12), 300, .inl f_172))] := hD
  refine lv_iconst (v := 1) hx hb dX12_movesAll_266 (by decide) ?_
  refine lv_icmp_ne (tgt := 274) hx hb dX12_movesAll_267 (by decide) (fun c_174 => ?_) (fun c_174 => absurd c_174 (by decide))
  refine lv_iconst (v := 0) hx hb dX12_movesAll_274 (by decide) ?_
  refine va_zast hx hb hK hP hD hS 0 11 rfl rfl (by unfold vp_in; decide) dX12_movesAll_275 (fun H locs hP hD hS => ?_)
  have hP : va_P (dC, dI) vwCl [((r 4), .inl ((kf 4), 24, .inl (upd (fun _ => 0) (19 : Int32).toNatClampNeg (vp_nar .boolean 0)))), ((r 0), .inl ((kf 0), 6, .inl f_24)), ((r 1), .inl ((kf 1), 36, .inl f_27)), ((r 2), .inl ((kf 2), 24, .inl f_30)), ((r 3), .inl ((kf 3), 24, .inl f_33)), ((r 5), .inl ((kf 5), 24, .inl f_36)), ((r 6), .inl ((kf 6), 24, .inl f_39)), ((r 7), .inl ((kf 7), 24, .inl f_42)), ((r 8), .inl ((kf 8), 8, .inl f_45)), ((r 9), .inl ((kf 9), 8, .inl f_48)), ((r 10), .inl ((kf 10), 8, .inl f_51)), ((r 11), .inl ((kf 11), 8, .inl f_54)), (h0, .inr (12, fsMk r (nI 224) 1)), ((r 12), .inl ((kf 12), 300, .inl f_172))] H := hP
  have hD : va_D A [((r 4), .inl ((kf 4), 24, .inl (upd (fun _ => 0) (19 : Int32).toNatClampNeg (vp_nar .boolean 0)))), ((r 0), .inl ((kf 0), 6, .inl f_24)), ((r 1), .inl ((kf 1), 36, .inl f_27)), ((r 2), .inl ((kf 2), 24, .inl f_30)), ((r 3), .inl ((kf 3), 24, .inl f_33)), ((r 5), .inl ((kf 5), 24, .inl f_36)), ((r 6), .inl ((kf 6), 24, .inl f_39)), ((r 7), .inl ((kf 7), 24, .inl f_42)), ((r 8), .inl ((kf 8), 8, .inl f_45)), ((r 9), .inl ((kf 9), 8, .inl f_48)), ((r 10), .inl ((kf 10), 8, .inl f_51)), ((r 11), .inl ((kf 11), 8, .inl f_54)), (h0, .inr (12, fsMk r (nI 224) 1)), ((r 12), .inl ((kf 12), 300, .inl f_172))] := hD
  rw [gz_upd0z] at hP hD
  refine lv_iinc (v := 20) (lv' := [(2, .int 20), (0, .ref h0), (1, .int 1)]) hx hb dX12_movesAll_276 hl (k := 0) rfl (by decide) (by decide) rfl (fun ls hl => ?_)
  refine lv_goto (tgt := 237) hx hb dX12_movesAll_279 (by decide) ?_
  refine lv_iload_n hx hb dX12_movesAll_237 rfl (lv_at hl 0 rfl) ?_
  refine lv_bipush (v := 24) hx hb dX12_movesAll_238 (by decide) ?_
  refine lv_icmp_ge (tgt := 282) hx hb dX12_movesAll_240 (by decide) (fun c_176 => absurd c_176 (by decide)) (fun c_176 => ?_)
  refine lv_aload_n hx hb dX12_movesAll_243 rfl (lv_at hl 1 rfl) ?_
  refine va_get (D := (dC, dI)) (ci := 12) (v := .ref (r 4)) (C := RX12) (T := TX12) (N := 57) hx hb hts (fun w h => List.mem_cons_of_mem _ (jnGB_X12 w h)) hown hK hP 12 rfl rfl 13 (by decide) (hts _ (List.mem_cons_of_mem _ mGB_43)) (fun _ h9 => h9) rfl dX12_movesAll_244 ?_
  refine lv_iload_n hx hb dX12_movesAll_247 rfl (lv_at hl 0 rfl) ?_
  refine lv_aload_n hx hb dX12_movesAll_248 rfl (lv_at hl 1 rfl) ?_
  refine lv_aload_n hx hb dX12_movesAll_249 rfl (lv_at hl 1 rfl) ?_
  refine va_get (D := (dC, dI)) (ci := 12) (v := .ref (r 4)) (C := RX12) (T := TX12) (N := 57) hx hb hts (fun w h => List.mem_cons_of_mem _ (jnGB_X12 w h)) hown hK hP 12 rfl rfl 13 (by decide) (hts _ (List.mem_cons_of_mem _ mGB_43)) (fun _ h9 => h9) rfl dX12_movesAll_250 ?_
  refine lv_iload_n hx hb dX12_movesAll_253 rfl (lv_at hl 0 rfl) ?_
  refine va_zald hx hb hK hP 0 11 rfl rfl (by unfold vp_in; decide) dX12_movesAll_254 ?_
  refine gz_topi (y := 0) rfl ?_
  refine lv_if_eq (tgt := 262) hx hb dX12_movesAll_255 (by decide) (fun c_177 => ?_) (fun c_177 => absurd (by decide) c_177)
  refine lv_iconst (v := 0) hx hb dX12_movesAll_262 (by decide) ?_
  have hP : va_P (dC, dI) vwCl [((r 4), .inl ((kf 4), 24, .inl (fun _ => 0))), ((r 0), .inl ((kf 0), 6, .inl f_24)), ((r 1), .inl ((kf 1), 36, .inl f_27)), ((r 2), .inl ((kf 2), 24, .inl f_30)), ((r 3), .inl ((kf 3), 24, .inl f_33)), ((r 5), .inl ((kf 5), 24, .inl f_36)), ((r 6), .inl ((kf 6), 24, .inl f_39)), ((r 7), .inl ((kf 7), 24, .inl f_42)), ((r 8), .inl ((kf 8), 8, .inl f_45)), ((r 9), .inl ((kf 9), 8, .inl f_48)), ((r 10), .inl ((kf 10), 8, .inl f_51)), ((r 11), .inl ((kf 11), 8, .inl f_54)), (h0, .inr (12, fsMk r (nI 224) 1)), ((r 12), .inl ((kf 12), 300, .inl f_172))] H := hP
  have hD : va_D A [((r 4), .inl ((kf 4), 24, .inl (fun _ => 0))), ((r 0), .inl ((kf 0), 6, .inl f_24)), ((r 1), .inl ((kf 1), 36, .inl f_27)), ((r 2), .inl ((kf 2), 24, .inl f_30)), ((r 3), .inl ((kf 3), 24, .inl f_33)), ((r 5), .inl ((kf 5), 24, .inl f_36)), ((r 6), .inl ((kf 6), 24, .inl f_39)), ((r 7), .inl ((kf 7), 24, .inl f_42)), ((r 8), .inl ((kf 8), 8, .inl f_45)), ((r 9), .inl ((kf 9), 8, .inl f_48)), ((r 10), .inl ((kf 10), 8, .inl f_51)), ((r 11), .inl ((kf 11), 8, .inl f_54)), (h0, .inr (12, fsMk r (nI 224) 1)), ((r 12), .inl ((kf 12), 300, .inl f_172))] := hD
  have hPc := hP.sub (ws' := [(h0, .inr (12, fsMk r (nI 224) 1)), ((r 12), .inl ((kf 12), 300, .inl f_172))]) [12, 13] rfl
  have hDc := hD.sub (ws' := [(h0, .inr (12, fsMk r (nI 224) 1)), ((r 12), .inl ((kf 12), 300, .inl f_172))]) [12, 13] (by decide) rfl
  have hKc := hK.sub (tys' := [((kf 12), .int)]) [12] rfl
  have hFc := va_free (wc := [(h0, .inr (12, fsMk r (nI 224) 1)), ((r 12), .inl ((kf 12), 300, .inl f_172))]) hD hS hA [12, 13] rfl
  refine va_calli (va_runV (As := [.int 0]) (rest := [.int 20, .ref (r 4)]) ⟨hx, hb, hml, hown, hts⟩ (fX12_moves l dC dI H.size h0 r kf 224 f_172 0 (by decide)) (cwV 1 hts (gz_gV mGB_70 mGB_71 mGB_72 mGB_5 mGB_69 goodGB) rfl rfl rfl (by decide +kernel) ⟨Nat.le_of_ble_eq_true rfl, Nat.le_of_ble_eq_true rfl⟩) ⟨fun a U g mk q => by obtain ⟨q0, q1, qP, qK, qD⟩ := q; exact ⟨q0, q1, qP, va_K.moved (u := U) (U := U.calling g mk a) (Vm.Alike.refl U.vm) qK, qD⟩, va_recv hKc hPc (ci := 12) (q0 := 0) rfl rfl, fun U hU hW => ⟨rfl, by rw [hU], by rw [hU]; exact hPc, va_K.moved hW.alike hKc, hDc.weaken (fun _ _ _ _ => trivial)⟩⟩ rfl rfl hl.1 rfl (lv_room (Nat.le_of_ble_eq_true rfl)) dX12_movesAll_263 ⟨Nat.le_of_ble_eq_true rfl, Nat.le_of_ble_eq_true rfl⟩) hS (fun q _ h => hFc q h) hFc (fun r_179 u t H1 locs ht hvm hw hB hz1 hk1 hS => ?_)
  obtain ⟨f_178, hP1, hK1, hD1⟩ := hB
  rw [ht] at hP1
  have hK1 := va_K.moved hvm.symm hK1
  obtain ⟨hP, hD⟩ := va_join (wr := [((r 4), .inl ((kf 4), 24, .inl (fun _ => 0))), ((r 0), .inl ((kf 0), 6, .inl f_24)), ((r 1), .inl ((kf 1), 36, .inl f_27)), ((r 2), .inl ((kf 2), 24, .inl f_30)), ((r 3), .inl ((kf 3), 24, .inl f_33)), ((r 5), .inl ((kf 5), 24, .inl f_36)), ((r 6), .inl ((kf 6), 24, .inl f_39)), ((r 7), .inl ((kf 7), 24, .inl f_42)), ((r 8), .inl ((kf 8), 8, .inl f_45)), ((r 9), .inl ((kf 9), 8, .inl f_48)), ((r 10), .inl ((kf 10), 8, .inl f_51)), ((r 11), .inl ((kf 11), 8, .inl f_54))]) (w1 := [(h0, .inr (12, fsMk r (nI (224 + 1)) 1)), ((r 12), .inl ((kf 12), 300, .inl f_178))]) hP hD [12, 13] [0, 1, 2, 3, 4, 5, 6, 7, 8, 9, 10, 11] rfl rfl (by decide) (by decide) hk1 hFc hP1 hD1
  generalize H1 = H at hP hS ⊢
  have hP : va_P (dC, dI) vwCl [((r 4), .inl ((kf 4), 24, .inl (fun _ => 0))), ((r 0), .inl ((kf 0), 6, .inl f_24)), ((r 1), .inl ((kf 1), 36, .inl f_27)), ((r 2), .inl ((kf 2), 24, .inl f_30)), ((r 3), .inl ((kf 3), 24, .inl f_33)), ((r 5), .inl ((kf 5), 24, .inl f_36)), ((r 6), .inl ((kf 6), 24, .inl f_39)), ((r 7), .inl ((kf 7), 24, .inl f_42)), ((r 8), .inl ((kf 8), 8, .inl f_45)), ((r 9), .inl ((kf 9), 8, .inl f_48)), ((r 10), .inl ((kf 10), 8, .inl f_51)), ((r 11), .inl ((kf 11), 8, .inl f_54)), (h0, .inr (12, fsMk r (nI (224 + 1)) 1)), ((r 12), .inl ((kf 12), 300, .inl f_178))] H := hP
  have hD : va_D A [((r 4), .inl ((kf 4), 24, .inl (fun _ => 0))), ((r 0), .inl ((kf 0), 6, .inl f_24)), ((r 1), .inl ((kf 1), 36, .inl f_27)), ((r 2), .inl ((kf 2), 24, .inl f_30)), ((r 3), .inl ((kf 3), 24, .inl f_33)), ((r 5), .inl ((kf 5), 24, .inl f_36)), ((r 6), .inl ((kf 6), 24, .inl f_39)), ((r 7), .inl ((kf 7), 24, .inl f_42)), ((r 8), .inl ((kf 8), 8, .inl f_45)), ((r 9), .inl ((kf 9), 8, .inl f_48)), ((r 10), .inl ((kf 10), 8, .inl f_51)), ((r 11), .inl ((kf 11), 8, .inl f_54)), (h0, .inr (12, fsMk r (nI (224 + 1)) 1)), ((r 12), .inl ((kf 12), 300, .inl f_178))] := hD
  subst hw
  have hP : va_P (dC, dI) vwCl [((r 4), .inl ((kf 4), 24, .inl (fun _ => 0))), ((r 0), .inl ((kf 0), 6, .inl f_24)), ((r 1), .inl ((kf 1), 36, .inl f_27)), ((r 2), .inl ((kf 2), 24, .inl f_30)), ((r 3), .inl ((kf 3), 24, .inl f_33)), ((r 5), .inl ((kf 5), 24, .inl f_36)), ((r 6), .inl ((kf 6), 24, .inl f_39)), ((r 7), .inl ((kf 7), 24, .inl f_42)), ((r 8), .inl ((kf 8), 8, .inl f_45)), ((r 9), .inl ((kf 9), 8, .inl f_48)), ((r 10), .inl ((kf 10), 8, .inl f_51)), ((r 11), .inl ((kf 11), 8, .inl f_54)), (h0, .inr (12, fsMk r (nI 225) 1)), ((r 12), .inl ((kf 12), 300, .inl f_178))] H := hP
  have hD : va_D A [((r 4), .inl ((kf 4), 24, .inl (fun _ => 0))), ((r 0), .inl ((kf 0), 6, .inl f_24)), ((r 1), .inl ((kf 1), 36, .inl f_27)), ((r 2), .inl ((kf 2), 24, .inl f_30)), ((r 3), .inl ((kf 3), 24, .inl f_33)), ((r 5), .inl ((kf 5), 24, .inl f_36)), ((r 6), .inl ((kf 6), 24, .inl f_39)), ((r 7), .inl ((kf 7), 24, .inl f_42)), ((r 8), .inl ((kf 8), 8, .inl f_45)), ((r 9), .inl ((kf 9), 8, .inl f_48)), ((r 10), .inl ((kf 10), 8, .inl f_51)), ((r 11), .inl ((kf 11), 8, .inl f_54)), (h0, .inr (12, fsMk r (nI 225) 1)), ((r 12), .inl ((kf 12), 300, .inl f_178))] := hD
  refine lv_iconst (v := 1) hx hb dX12_movesAll_266 (by decide) ?_
  refine lv_icmp_ne (tgt := 274) hx hb dX12_movesAll_267 (by decide) (fun c_180 => ?_) (fun c_180 => absurd c_180 (by decide))
  refine lv_iconst (v := 0) hx hb dX12_movesAll_274 (by decide) ?_
  refine va_zast hx hb hK hP hD hS 0 11 rfl rfl (by unfold vp_in; decide) dX12_movesAll_275 (fun H locs hP hD hS => ?_)
  have hP : va_P (dC, dI) vwCl [((r 4), .inl ((kf 4), 24, .inl (upd (fun _ => 0) (20 : Int32).toNatClampNeg (vp_nar .boolean 0)))), ((r 0), .inl ((kf 0), 6, .inl f_24)), ((r 1), .inl ((kf 1), 36, .inl f_27)), ((r 2), .inl ((kf 2), 24, .inl f_30)), ((r 3), .inl ((kf 3), 24, .inl f_33)), ((r 5), .inl ((kf 5), 24, .inl f_36)), ((r 6), .inl ((kf 6), 24, .inl f_39)), ((r 7), .inl ((kf 7), 24, .inl f_42)), ((r 8), .inl ((kf 8), 8, .inl f_45)), ((r 9), .inl ((kf 9), 8, .inl f_48)), ((r 10), .inl ((kf 10), 8, .inl f_51)), ((r 11), .inl ((kf 11), 8, .inl f_54)), (h0, .inr (12, fsMk r (nI 225) 1)), ((r 12), .inl ((kf 12), 300, .inl f_178))] H := hP
  have hD : va_D A [((r 4), .inl ((kf 4), 24, .inl (upd (fun _ => 0) (20 : Int32).toNatClampNeg (vp_nar .boolean 0)))), ((r 0), .inl ((kf 0), 6, .inl f_24)), ((r 1), .inl ((kf 1), 36, .inl f_27)), ((r 2), .inl ((kf 2), 24, .inl f_30)), ((r 3), .inl ((kf 3), 24, .inl f_33)), ((r 5), .inl ((kf 5), 24, .inl f_36)), ((r 6), .inl ((kf 6), 24, .inl f_39)), ((r 7), .inl ((kf 7), 24, .inl f_42)), ((r 8), .inl ((kf 8), 8, .inl f_45)), ((r 9), .inl ((kf 9), 8, .inl f_48)), ((r 10), .inl ((kf 10), 8, .inl f_51)), ((r 11), .inl ((kf 11), 8, .inl f_54)), (h0, .inr (12, fsMk r (nI 225) 1)), ((r 12), .inl ((kf 12), 300, .inl f_178))] := hD
  rw [gz_upd0z] at hP hD
  refine lv_iinc (v := 21) (lv' := [(2, .int 21), (0, .ref h0), (1, .int 1)]) hx hb dX12_movesAll_276 hl (k := 0) rfl (by decide) (by decide) rfl (fun ls hl => ?_)
  refine lv_goto (tgt := 237) hx hb dX12_movesAll_279 (by decide) ?_
  refine lv_iload_n hx hb dX12_movesAll_237 rfl (lv_at hl 0 rfl) ?_
  refine lv_bipush (v := 24) hx hb dX12_movesAll_238 (by decide) ?_
  refine lv_icmp_ge (tgt := 282) hx hb dX12_movesAll_240 (by decide) (fun c_182 => absurd c_182 (by decide)) (fun c_182 => ?_)
  refine lv_aload_n hx hb dX12_movesAll_243 rfl (lv_at hl 1 rfl) ?_
  refine va_get (D := (dC, dI)) (ci := 12) (v := .ref (r 4)) (C := RX12) (T := TX12) (N := 57) hx hb hts (fun w h => List.mem_cons_of_mem _ (jnGB_X12 w h)) hown hK hP 12 rfl rfl 13 (by decide) (hts _ (List.mem_cons_of_mem _ mGB_43)) (fun _ h9 => h9) rfl dX12_movesAll_244 ?_
  refine lv_iload_n hx hb dX12_movesAll_247 rfl (lv_at hl 0 rfl) ?_
  refine lv_aload_n hx hb dX12_movesAll_248 rfl (lv_at hl 1 rfl) ?_
  refine lv_aload_n hx hb dX12_movesAll_249 rfl (lv_at hl 1 rfl) ?_
  refine va_get (D := (dC, dI)) (ci := 12) (v := .ref (r 4)) (C := RX12) (T := TX12) (N := 57) hx hb hts (fun w h => List.mem_cons_of_mem _ (jnGB_X12 w h)) hown hK hP 12 rfl rfl 13 (by decide) (hts _ (List.mem_cons_of_mem _ mGB_43)) (fun _ h9 => h9) rfl dX12_movesAll_250 ?_
  refine lv_iload_n hx hb dX12_movesAll_253 rfl (lv_at hl 0 rfl) ?_
  refine va_zald hx hb hK hP 0 11 rfl rfl (by unfold vp_in; decide) dX12_movesAll_254 ?_
  refine gz_topi (y := 0) rfl ?_
  refine lv_if_eq (tgt := 262) hx hb dX12_movesAll_255 (by decide) (fun c_183 => ?_) (fun c_183 => absurd (by decide) c_183)
  refine lv_iconst (v := 0) hx hb dX12_movesAll_262 (by decide) ?_
  have hP : va_P (dC, dI) vwCl [((r 4), .inl ((kf 4), 24, .inl (fun _ => 0))), ((r 0), .inl ((kf 0), 6, .inl f_24)), ((r 1), .inl ((kf 1), 36, .inl f_27)), ((r 2), .inl ((kf 2), 24, .inl f_30)), ((r 3), .inl ((kf 3), 24, .inl f_33)), ((r 5), .inl ((kf 5), 24, .inl f_36)), ((r 6), .inl ((kf 6), 24, .inl f_39)), ((r 7), .inl ((kf 7), 24, .inl f_42)), ((r 8), .inl ((kf 8), 8, .inl f_45)), ((r 9), .inl ((kf 9), 8, .inl f_48)), ((r 10), .inl ((kf 10), 8, .inl f_51)), ((r 11), .inl ((kf 11), 8, .inl f_54)), (h0, .inr (12, fsMk r (nI 225) 1)), ((r 12), .inl ((kf 12), 300, .inl f_178))] H := hP
  have hD : va_D A [((r 4), .inl ((kf 4), 24, .inl (fun _ => 0))), ((r 0), .inl ((kf 0), 6, .inl f_24)), ((r 1), .inl ((kf 1), 36, .inl f_27)), ((r 2), .inl ((kf 2), 24, .inl f_30)), ((r 3), .inl ((kf 3), 24, .inl f_33)), ((r 5), .inl ((kf 5), 24, .inl f_36)), ((r 6), .inl ((kf 6), 24, .inl f_39)), ((r 7), .inl ((kf 7), 24, .inl f_42)), ((r 8), .inl ((kf 8), 8, .inl f_45)), ((r 9), .inl ((kf 9), 8, .inl f_48)), ((r 10), .inl ((kf 10), 8, .inl f_51)), ((r 11), .inl ((kf 11), 8, .inl f_54)), (h0, .inr (12, fsMk r (nI 225) 1)), ((r 12), .inl ((kf 12), 300, .inl f_178))] := hD
  have hPc := hP.sub (ws' := [(h0, .inr (12, fsMk r (nI 225) 1)), ((r 12), .inl ((kf 12), 300, .inl f_178))]) [12, 13] rfl
  have hDc := hD.sub (ws' := [(h0, .inr (12, fsMk r (nI 225) 1)), ((r 12), .inl ((kf 12), 300, .inl f_178))]) [12, 13] (by decide) rfl
  have hKc := hK.sub (tys' := [((kf 12), .int)]) [12] rfl
  have hFc := va_free (wc := [(h0, .inr (12, fsMk r (nI 225) 1)), ((r 12), .inl ((kf 12), 300, .inl f_178))]) hD hS hA [12, 13] rfl
  refine va_calli (va_runV (As := [.int 0]) (rest := [.int 21, .ref (r 4)]) ⟨hx, hb, hml, hown, hts⟩ (fX12_moves l dC dI H.size h0 r kf 225 f_178 0 (by decide)) (cwV 1 hts (gz_gV mGB_70 mGB_71 mGB_72 mGB_5 mGB_69 goodGB) rfl rfl rfl (by decide +kernel) ⟨Nat.le_of_ble_eq_true rfl, Nat.le_of_ble_eq_true rfl⟩) ⟨fun a U g mk q => by obtain ⟨q0, q1, qP, qK, qD⟩ := q; exact ⟨q0, q1, qP, va_K.moved (u := U) (U := U.calling g mk a) (Vm.Alike.refl U.vm) qK, qD⟩, va_recv hKc hPc (ci := 12) (q0 := 0) rfl rfl, fun U hU hW => ⟨rfl, by rw [hU], by rw [hU]; exact hPc, va_K.moved hW.alike hKc, hDc.weaken (fun _ _ _ _ => trivial)⟩⟩ rfl rfl hl.1 rfl (lv_room (Nat.le_of_ble_eq_true rfl)) dX12_movesAll_263 ⟨Nat.le_of_ble_eq_true rfl, Nat.le_of_ble_eq_true rfl⟩) hS (fun q _ h => hFc q h) hFc (fun r_185 u t H1 locs ht hvm hw hB hz1 hk1 hS => ?_)
  obtain ⟨f_184, hP1, hK1, hD1⟩ := hB
  rw [ht] at hP1
  have hK1 := va_K.moved hvm.symm hK1
  obtain ⟨hP, hD⟩ := va_join (wr := [((r 4), .inl ((kf 4), 24, .inl (fun _ => 0))), ((r 0), .inl ((kf 0), 6, .inl f_24)), ((r 1), .inl ((kf 1), 36, .inl f_27)), ((r 2), .inl ((kf 2), 24, .inl f_30)), ((r 3), .inl ((kf 3), 24, .inl f_33)), ((r 5), .inl ((kf 5), 24, .inl f_36)), ((r 6), .inl ((kf 6), 24, .inl f_39)), ((r 7), .inl ((kf 7), 24, .inl f_42)), ((r 8), .inl ((kf 8), 8, .inl f_45)), ((r 9), .inl ((kf 9), 8, .inl f_48)), ((r 10), .inl ((kf 10), 8, .inl f_51)), ((r 11), .inl ((kf 11), 8, .inl f_54))]) (w1 := [(h0, .inr (12, fsMk r (nI (225 + 1)) 1)), ((r 12), .inl ((kf 12), 300, .inl f_184))]) hP hD [12, 13] [0, 1, 2, 3, 4, 5, 6, 7, 8, 9, 10, 11] rfl rfl (by decide) (by decide) hk1 hFc hP1 hD1
  generalize H1 = H at hP hS ⊢
  have hP : va_P (dC, dI) vwCl [((r 4), .inl ((kf 4), 24, .inl (fun _ => 0))), ((r 0), .inl ((kf 0), 6, .inl f_24)), ((r 1), .inl ((kf 1), 36, .inl f_27)), ((r 2), .inl ((kf 2), 24, .inl f_30)), ((r 3), .inl ((kf 3), 24, .inl f_33)), ((r 5), .inl ((kf 5), 24, .inl f_36)), ((r 6), .inl ((kf 6), 24, .inl f_39)), ((r 7), .inl ((kf 7), 24, .inl f_42)), ((r 8), .inl ((kf 8), 8, .inl f_45)), ((r 9), .inl ((kf 9), 8, .inl f_48)), ((r 10), .inl ((kf 10), 8, .inl f_51)), ((r 11), .inl ((kf 11), 8, .inl f_54)), (h0, .inr (12, fsMk r (nI (225 + 1)) 1)), ((r 12), .inl ((kf 12), 300, .inl f_184))] H := hP
  have hD : va_D A [((r 4), .inl ((kf 4), 24, .inl (fun _ => 0))), ((r 0), .inl ((kf 0), 6, .inl f_24)), ((r 1), .inl ((kf 1), 36, .inl f_27)), ((r 2), .inl ((kf 2), 24, .inl f_30)), ((r 3), .inl ((kf 3), 24, .inl f_33)), ((r 5), .inl ((kf 5), 24, .inl f_36)), ((r 6), .inl ((kf 6), 24, .inl f_39)), ((r 7), .inl ((kf 7), 24, .inl f_42)), ((r 8), .inl ((kf 8), 8, .inl f_45)), ((r 9), .inl ((kf 9), 8, .inl f_48)), ((r 10), .inl ((kf 10), 8, .inl f_51)), ((r 11), .inl ((kf 11), 8, .inl f_54)), (h0, .inr (12, fsMk r (nI (225 + 1)) 1)), ((r 12), .inl ((kf 12), 300, .inl f_184))] := hD
  subst hw
  have hP : va_P (dC, dI) vwCl [((r 4), .inl ((kf 4), 24, .inl (fun _ => 0))), ((r 0), .inl ((kf 0), 6, .inl f_24)), ((r 1), .inl ((kf 1), 36, .inl f_27)), ((r 2), .inl ((kf 2), 24, .inl f_30)), ((r 3), .inl ((kf 3), 24, .inl f_33)), ((r 5), .inl ((kf 5), 24, .inl f_36)), ((r 6), .inl ((kf 6), 24, .inl f_39)), ((r 7), .inl ((kf 7), 24, .inl f_42)), ((r 8), .inl ((kf 8), 8, .inl f_45)), ((r 9), .inl ((kf 9), 8, .inl f_48)), ((r 10), .inl ((kf 10), 8, .inl f_51)), ((r 11), .inl ((kf 11), 8, .inl f_54)), (h0, .inr (12, fsMk r (nI 226) 1)), ((r 12), .inl ((kf 12), 300, .inl f_184))] H := hP
  have hD : va_D A [((r 4), .inl ((kf 4), 24, .inl (fun _ => 0))), ((r 0), .inl ((kf 0), 6, .inl f_24)), ((r 1), .inl ((kf 1), 36, .inl f_27)), ((r 2), .inl ((kf 2), 24, .inl f_30)), ((r 3), .inl ((kf 3), 24, .inl f_33)), ((r 5), .inl ((kf 5), 24, .inl f_36)), ((r 6), .inl ((kf 6), 24, .inl f_39)), ((r 7), .inl ((kf 7), 24, .inl f_42)), ((r 8), .inl ((kf 8), 8, .inl f_45)), ((r 9), .inl ((kf 9), 8, .inl f_48)), ((r 10), .inl ((kf 10), 8, .inl f_51)), ((r 11), .inl ((kf 11), 8, .inl f_54)), (h0, .inr (12, fsMk r (nI 226) 1)), ((r 12), .inl ((kf 12), 300, .inl f_184))] := hD
  refine lv_iconst (v := 1) hx hb dX12_movesAll_266 (by decide) ?_
  refine lv_icmp_ne (tgt := 274) hx hb dX12_movesAll_267 (by decide) (fun c_186 => ?_) (fun c_186 => absurd c_186 (by decide))
  refine lv_iconst (v := 0) hx hb dX12_movesAll_274 (by decide) ?_
  refine va_zast hx hb hK hP hD hS 0 11 rfl rfl (by unfold vp_in; decide) dX12_movesAll_275 (fun H locs hP hD hS => ?_)
  have hP : va_P (dC, dI) vwCl [((r 4), .inl ((kf 4), 24, .inl (upd (fun _ => 0) (21 : Int32).toNatClampNeg (vp_nar .boolean 0)))), ((r 0), .inl ((kf 0), 6, .inl f_24)), ((r 1), .inl ((kf 1), 36, .inl f_27)), ((r 2), .inl ((kf 2), 24, .inl f_30)), ((r 3), .inl ((kf 3), 24, .inl f_33)), ((r 5), .inl ((kf 5), 24, .inl f_36)), ((r 6), .inl ((kf 6), 24, .inl f_39)), ((r 7), .inl ((kf 7), 24, .inl f_42)), ((r 8), .inl ((kf 8), 8, .inl f_45)), ((r 9), .inl ((kf 9), 8, .inl f_48)), ((r 10), .inl ((kf 10), 8, .inl f_51)), ((r 11), .inl ((kf 11), 8, .inl f_54)), (h0, .inr (12, fsMk r (nI 226) 1)), ((r 12), .inl ((kf 12), 300, .inl f_184))] H := hP
  have hD : va_D A [((r 4), .inl ((kf 4), 24, .inl (upd (fun _ => 0) (21 : Int32).toNatClampNeg (vp_nar .boolean 0)))), ((r 0), .inl ((kf 0), 6, .inl f_24)), ((r 1), .inl ((kf 1), 36, .inl f_27)), ((r 2), .inl ((kf 2), 24, .inl f_30)), ((r 3), .inl ((kf 3), 24, .inl f_33)), ((r 5), .inl ((kf 5), 24, .inl f_36)), ((r 6), .inl ((kf 6), 24, .inl f_39)), ((r 7), .inl ((kf 7), 24, .inl f_42)), ((r 8), .inl ((kf 8), 8, .inl f_45)), ((r 9), .inl ((kf 9), 8, .inl f_48)), ((r 10), .inl ((kf 10), 8, .inl f_51)), ((r 11), .inl ((kf 11), 8, .inl f_54)), (h0, .inr (12, fsMk r (nI 226) 1)), ((r 12), .inl ((kf 12), 300, .inl f_184))] := hD
  rw [gz_upd0z] at hP hD
  refine lv_iinc (v := 22) (lv' := [(2, .int 22), (0, .ref h0), (1, .int 1)]) hx hb dX12_movesAll_276 hl (k := 0) rfl (by decide) (by decide) rfl (fun ls hl => ?_)
  refine lv_goto (tgt := 237) hx hb dX12_movesAll_279 (by decide) ?_
  refine lv_iload_n hx hb dX12_movesAll_237 rfl (lv_at hl 0 rfl) ?_
  refine lv_bipush (v := 24) hx hb dX12_movesAll_238 (by decide) ?_
  refine lv_icmp_ge (tgt := 282) hx hb dX12_movesAll_240 (by decide) (fun c_188 => absurd c_188 (by decide)) (fun c_188 => ?_)
  refine lv_aload_n hx hb dX12_movesAll_243 rfl (lv_at hl 1 rfl) ?_
  refine va_get (D := (dC, dI)) (ci := 12) (v := .ref (r 4)) (C := RX12) (T := TX12) (N := 57) hx hb hts (fun w h => List.mem_cons_of_mem _ (jnGB_X12 w h)) hown hK hP 12 rfl rfl 13 (by decide) (hts _ (List.mem_cons_of_mem _ mGB_43)) (fun _ h9 => h9) rfl dX12_movesAll_244 ?_
  refine lv_iload_n hx hb dX12_movesAll_247 rfl (lv_at hl 0 rfl) ?_
  refine lv_aload_n hx hb dX12_movesAll_248 rfl (lv_at hl 1 rfl) ?_
  refine lv_aload_n hx hb dX12_movesAll_249 rfl (lv_at hl 1 rfl) ?_
  refine va_get (D := (dC, dI)) (ci := 12) (v := .ref (r 4)) (C := RX12) (T := TX12) (N := 57) hx hb hts (fun w h => List.mem_cons_of_mem _ (jnGB_X12 w h)) hown hK hP 12 rfl rfl 13 (by decide) (hts _ (List.mem_cons_of_mem _ mGB_43)) (fun _ h9 => h9) rfl dX12_movesAll_250 ?_
  refine lv_iload_n hx hb dX12_movesAll_253 rfl (lv_at hl 0 rfl) ?_
  refine va_zald hx hb hK hP 0 11 rfl rfl (by unfold vp_in; decide) dX12_movesAll_254 ?_
  refine gz_topi (y := 0) rfl ?_
  refine lv_if_eq (tgt := 262) hx hb dX12_movesAll_255 (by decide) (fun c_189 => ?_) (fun c_189 => absurd (by decide) c_189)
  refine lv_iconst (v := 0) hx hb dX12_movesAll_262 (by decide) ?_
  have hP : va_P (dC, dI) vwCl [((r 4), .inl ((kf 4), 24, .inl (fun _ => 0))), ((r 0), .inl ((kf 0), 6, .inl f_24)), ((r 1), .inl ((kf 1), 36, .inl f_27)), ((r 2), .inl ((kf 2), 24, .inl f_30)), ((r 3), .inl ((kf 3), 24, .inl f_33)), ((r 5), .inl ((kf 5), 24, .inl f_36)), ((r 6), .inl ((kf 6), 24, .inl f_39)), ((r 7), .inl ((kf 7), 24, .inl f_42)), ((r 8), .inl ((kf 8), 8, .inl f_45)), ((r 9), .inl ((kf 9), 8, .inl f_48)), ((r 10), .inl ((kf 10), 8, .inl f_51)), ((r 11), .inl ((kf 11), 8, .inl f_54)), (h0, .inr (12, fsMk r (nI 226) 1)), ((r 12), .inl ((kf 12), 300, .inl f_184))] H := hP
  have hD : va_D A [((r 4), .inl ((kf 4), 24, .inl (fun _ => 0))), ((r 0), .inl ((kf 0), 6, .inl f_24)), ((r 1), .inl ((kf 1), 36, .inl f_27)), ((r 2), .inl ((kf 2), 24, .inl f_30)), ((r 3), .inl ((kf 3), 24, .inl f_33)), ((r 5), .inl ((kf 5), 24, .inl f_36)), ((r 6), .inl ((kf 6), 24, .inl f_39)), ((r 7), .inl ((kf 7), 24, .inl f_42)), ((r 8), .inl ((kf 8), 8, .inl f_45)), ((r 9), .inl ((kf 9), 8, .inl f_48)), ((r 10), .inl ((kf 10), 8, .inl f_51)), ((r 11), .inl ((kf 11), 8, .inl f_54)), (h0, .inr (12, fsMk r (nI 226) 1)), ((r 12), .inl ((kf 12), 300, .inl f_184))] := hD
  have hPc := hP.sub (ws' := [(h0, .inr (12, fsMk r (nI 226) 1)), ((r 12), .inl ((kf 12), 300, .inl f_184))]) [12, 13] rfl
  have hDc := hD.sub (ws' := [(h0, .inr (12, fsMk r (nI 226) 1)), ((r 12), .inl ((kf 12), 300, .inl f_184))]) [12, 13] (by decide) rfl
  have hKc := hK.sub (tys' := [((kf 12), .int)]) [12] rfl
  have hFc := va_free (wc := [(h0, .inr (12, fsMk r (nI 226) 1)), ((r 12), .inl ((kf 12), 300, .inl f_184))]) hD hS hA [12, 13] rfl
  refine va_calli (va_runV (As := [.int 0]) (rest := [.int 22, .ref (r 4)]) ⟨hx, hb, hml, hown, hts⟩ (fX12_moves l dC dI H.size h0 r kf 226 f_184 0 (by decide)) (cwV 1 hts (gz_gV mGB_70 mGB_71 mGB_72 mGB_5 mGB_69 goodGB) rfl rfl rfl (by decide +kernel) ⟨Nat.le_of_ble_eq_true rfl, Nat.le_of_ble_eq_true rfl⟩) ⟨fun a U g mk q => by obtain ⟨q0, q1, qP, qK, qD⟩ := q; exact ⟨q0, q1, qP, va_K.moved (u := U) (U := U.calling g mk a) (Vm.Alike.refl U.vm) qK, qD⟩, va_recv hKc hPc (ci := 12) (q0 := 0) rfl rfl, fun U hU hW => ⟨rfl, by rw [hU], by rw [hU]; exact hPc, va_K.moved hW.alike hKc, hDc.weaken (fun _ _ _ _ => trivial)⟩⟩ rfl rfl hl.1 rfl (lv_room (Nat.le_of_ble_eq_true rfl)) dX12_movesAll_263 ⟨Nat.le_of_ble_eq_true rfl, Nat.le_of_ble_eq_true rfl⟩) hS (fun q _ h => hFc q h) hFc (fun r_191 u t H1 locs ht hvm hw hB hz1 hk1 hS => ?_)
  obtain ⟨f_190, hP1, hK1, hD1⟩ := hB
  rw [ht] at hP1
  have hK1 := va_K.moved hvm.symm hK1
  obtain ⟨hP, hD⟩ := va_join (wr := [((r 4), .inl ((kf 4), 24, .inl (fun _ => 0))), ((r 0), .inl ((kf 0), 6, .inl f_24)), ((r 1), .inl ((kf 1), 36, .inl f_27)), ((r 2), .inl ((kf 2), 24, .inl f_30)), ((r 3), .inl ((kf 3), 24, .inl f_33)), ((r 5), .inl ((kf 5), 24, .inl f_36)), ((r 6), .inl ((kf 6), 24, .inl f_39)), ((r 7), .inl ((kf 7), 24, .inl f_42)), ((r 8), .inl ((kf 8), 8, .inl f_45)), ((r 9), .inl ((kf 9), 8, .inl f_48)), ((r 10), .inl ((kf 10), 8, .inl f_51)), ((r 11), .inl ((kf 11), 8, .inl f_54))]) (w1 := [(h0, .inr (12, fsMk r (nI (226 + 1)) 1)), ((r 12), .inl ((kf 12), 300, .inl f_190))]) hP hD [12, 13] [0, 1, 2, 3, 4, 5, 6, 7, 8, 9, 10, 11] rfl rfl (by decide) (by decide) hk1 hFc hP1 hD1
  generalize H1 = H at hP hS ⊢
  have hP : va_P (dC, dI) vwCl [((r 4), .inl ((kf 4), 24, .inl (fun _ => 0))), ((r 0), .inl ((kf 0), 6, .inl f_24)), ((r 1), .inl ((kf 1), 36, .inl f_27)), ((r 2), .inl ((kf 2), 24, .inl f_30)), ((r 3), .inl ((kf 3), 24, .inl f_33)), ((r 5), .inl ((kf 5), 24, .inl f_36)), ((r 6), .inl ((kf 6), 24, .inl f_39)), ((r 7), .inl ((kf 7), 24, .inl f_42)), ((r 8), .inl ((kf 8), 8, .inl f_45)), ((r 9), .inl ((kf 9), 8, .inl f_48)), ((r 10), .inl ((kf 10), 8, .inl f_51)), ((r 11), .inl ((kf 11), 8, .inl f_54)), (h0, .inr (12, fsMk r (nI (226 + 1)) 1)), ((r 12), .inl ((kf 12), 300, .inl f_190))] H := hP
  have hD : va_D A [((r 4), .inl ((kf 4), 24, .inl (fun _ => 0))), ((r 0), .inl ((kf 0), 6, .inl f_24)), ((r 1), .inl ((kf 1), 36, .inl f_27)), ((r 2), .inl ((kf 2), 24, .inl f_30)), ((r 3), .inl ((kf 3), 24, .inl f_33)), ((r 5), .inl ((kf 5), 24, .inl f_36)), ((r 6), .inl ((kf 6), 24, .inl f_39)), ((r 7), .inl ((kf 7), 24, .inl f_42)), ((r 8), .inl ((kf 8), 8, .inl f_45)), ((r 9), .inl ((kf 9), 8, .inl f_48)), ((r 10), .inl ((kf 10), 8, .inl f_51)), ((r 11), .inl ((kf 11), 8, .inl f_54)), (h0, .inr (12, fsMk r (nI (226 + 1)) 1)), ((r 12), .inl ((kf 12), 300, .inl f_190))] := hD
  subst hw
  have hP : va_P (dC, dI) vwCl [((r 4), .inl ((kf 4), 24, .inl (fun _ => 0))), ((r 0), .inl ((kf 0), 6, .inl f_24)), ((r 1), .inl ((kf 1), 36, .inl f_27)), ((r 2), .inl ((kf 2), 24, .inl f_30)), ((r 3), .inl ((kf 3), 24, .inl f_33)), ((r 5), .inl ((kf 5), 24, .inl f_36)), ((r 6), .inl ((kf 6), 24, .inl f_39)), ((r 7), .inl ((kf 7), 24, .inl f_42)), ((r 8), .inl ((kf 8), 8, .inl f_45)), ((r 9), .inl ((kf 9), 8, .inl f_48)), ((r 10), .inl ((kf 10), 8, .inl f_51)), ((r 11), .inl ((kf 11), 8, .inl f_54)), (h0, .inr (12, fsMk r (nI 227) 1)), ((r 12), .inl ((kf 12), 300, .inl f_190))] H := hP
  have hD : va_D A [((r 4), .inl ((kf 4), 24, .inl (fun _ => 0))), ((r 0), .inl ((kf 0), 6, .inl f_24)), ((r 1), .inl ((kf 1), 36, .inl f_27)), ((r 2), .inl ((kf 2), 24, .inl f_30)), ((r 3), .inl ((kf 3), 24, .inl f_33)), ((r 5), .inl ((kf 5), 24, .inl f_36)), ((r 6), .inl ((kf 6), 24, .inl f_39)), ((r 7), .inl ((kf 7), 24, .inl f_42)), ((r 8), .inl ((kf 8), 8, .inl f_45)), ((r 9), .inl ((kf 9), 8, .inl f_48)), ((r 10), .inl ((kf 10), 8, .inl f_51)), ((r 11), .inl ((kf 11), 8, .inl f_54)), (h0, .inr (12, fsMk r (nI 227) 1)), ((r 12), .inl ((kf 12), 300, .inl f_190))] := hD
  refine lv_iconst (v := 1) hx hb dX12_movesAll_266 (by decide) ?_
  refine lv_icmp_ne (tgt := 274) hx hb dX12_movesAll_267 (by decide) (fun c_192 => ?_) (fun c_192 => absurd c_192 (by decide))
  refine lv_iconst (v := 0) hx hb dX12_movesAll_274 (by decide) ?_
  refine va_zast hx hb hK hP hD hS 0 11 rfl rfl (by unfold vp_in; decide) dX12_movesAll_275 (fun H locs hP hD hS => ?_)
  have hP : va_P (dC, dI) vwCl [((r 4), .inl ((kf 4), 24, .inl (upd (fun _ => 0) (22 : Int32).toNatClampNeg (vp_nar .boolean 0)))), ((r 0), .inl ((kf 0), 6, .inl f_24)), ((r 1), .inl ((kf 1), 36, .inl f_27)), ((r 2), .inl ((kf 2), 24, .inl f_30)), ((r 3), .inl ((kf 3), 24, .inl f_33)), ((r 5), .inl ((kf 5), 24, .inl f_36)), ((r 6), .inl ((kf 6), 24, .inl f_39)), ((r 7), .inl ((kf 7), 24, .inl f_42)), ((r 8), .inl ((kf 8), 8, .inl f_45)), ((r 9), .inl ((kf 9), 8, .inl f_48)), ((r 10), .inl ((kf 10), 8, .inl f_51)), ((r 11), .inl ((kf 11), 8, .inl f_54)), (h0, .inr (12, fsMk r (nI 227) 1)), ((r 12), .inl ((kf 12), 300, .inl f_190))] H := hP
  have hD : va_D A [((r 4), .inl ((kf 4), 24, .inl (upd (fun _ => 0) (22 : Int32).toNatClampNeg (vp_nar .boolean 0)))), ((r 0), .inl ((kf 0), 6, .inl f_24)), ((r 1), .inl ((kf 1), 36, .inl f_27)), ((r 2), .inl ((kf 2), 24, .inl f_30)), ((r 3), .inl ((kf 3), 24, .inl f_33)), ((r 5), .inl ((kf 5), 24, .inl f_36)), ((r 6), .inl ((kf 6), 24, .inl f_39)), ((r 7), .inl ((kf 7), 24, .inl f_42)), ((r 8), .inl ((kf 8), 8, .inl f_45)), ((r 9), .inl ((kf 9), 8, .inl f_48)), ((r 10), .inl ((kf 10), 8, .inl f_51)), ((r 11), .inl ((kf 11), 8, .inl f_54)), (h0, .inr (12, fsMk r (nI 227) 1)), ((r 12), .inl ((kf 12), 300, .inl f_190))] := hD
  rw [gz_upd0z] at hP hD
  refine lv_iinc (v := 23) (lv' := [(2, .int 23), (0, .ref h0), (1, .int 1)]) hx hb dX12_movesAll_276 hl (k := 0) rfl (by decide) (by decide) rfl (fun ls hl => ?_)
  refine lv_goto (tgt := 237) hx hb dX12_movesAll_279 (by decide) ?_
  refine lv_iload_n hx hb dX12_movesAll_237 rfl (lv_at hl 0 rfl) ?_
  refine lv_bipush (v := 24) hx hb dX12_movesAll_238 (by decide) ?_
  refine lv_icmp_ge (tgt := 282) hx hb dX12_movesAll_240 (by decide) (fun c_194 => absurd c_194 (by decide)) (fun c_194 => ?_)
  refine lv_aload_n hx hb dX12_movesAll_243 rfl (lv_at hl 1 rfl) ?_
  refine va_get (D := (dC, dI)) (ci := 12) (v := .ref (r 4)) (C := RX12) (T := TX12) (N := 57) hx hb hts (fun w h => List.mem_cons_of_mem _ (jnGB_X12 w h)) hown hK hP 12 rfl rfl 13 (by decide) (hts _ (List.mem_cons_of_mem _ mGB_43)) (fun _ h9 => h9) rfl dX12_movesAll_244 ?_
  refine lv_iload_n hx hb dX12_movesAll_247 rfl (lv_at hl 0 rfl) ?_
  refine lv_aload_n hx hb dX12_movesAll_248 rfl (lv_at hl 1 rfl) ?_
  refine lv_aload_n hx hb dX12_movesAll_249 rfl (lv_at hl 1 rfl) ?_
  refine va_get (D := (dC, dI)) (ci := 12) (v := .ref (r 4)) (C := RX12) (T := TX12) (N := 57) hx hb hts (fun w h => List.mem_cons_of_mem _ (jnGB_X12 w h)) hown hK hP 12 rfl rfl 13 (by decide) (hts _ (List.mem_cons_of_mem _ mGB_43)) (fun _ h9 => h9) rfl dX12_movesAll_250 ?_
  refine lv_iload_n hx hb dX12_movesAll_253 rfl (lv_at hl 0 rfl) ?_
  refine va_zald hx hb hK hP 0 11 rfl rfl (by unfold vp_in; decide) dX12_movesAll_254 ?_
  refine gz_topi (y := 0) rfl ?_
  refine lv_if_eq (tgt := 262) hx hb dX12_movesAll_255 (by decide) (fun c_195 => ?_) (fun c_195 => absurd (by decide) c_195)
  refine lv_iconst (v := 0) hx hb dX12_movesAll_262 (by decide) ?_
  have hP : va_P (dC, dI) vwCl [((r 4), .inl ((kf 4), 24, .inl (fun _ => 0))), ((r 0), .inl ((kf 0), 6, .inl f_24)), ((r 1), .inl ((kf 1), 36, .inl f_27)), ((r 2), .inl ((kf 2), 24, .inl f_30)), ((r 3), .inl ((kf 3), 24, .inl f_33)), ((r 5), .inl ((kf 5), 24, .inl f_36)), ((r 6), .inl ((kf 6), 24, .inl f_39)), ((r 7), .inl ((kf 7), 24, .inl f_42)), ((r 8), .inl ((kf 8), 8, .inl f_45)), ((r 9), .inl ((kf 9), 8, .inl f_48)), ((r 10), .inl ((kf 10), 8, .inl f_51)), ((r 11), .inl ((kf 11), 8, .inl f_54)), (h0, .inr (12, fsMk r (nI 227) 1)), ((r 12), .inl ((kf 12), 300, .inl f_190))] H := hP
  have hD : va_D A [((r 4), .inl ((kf 4), 24, .inl (fun _ => 0))), ((r 0), .inl ((kf 0), 6, .inl f_24)), ((r 1), .inl ((kf 1), 36, .inl f_27)), ((r 2), .inl ((kf 2), 24, .inl f_30)), ((r 3), .inl ((kf 3), 24, .inl f_33)), ((r 5), .inl ((kf 5), 24, .inl f_36)), ((r 6), .inl ((kf 6), 24, .inl f_39)), ((r 7), .inl ((kf 7), 24, .inl f_42)), ((r 8), .inl ((kf 8), 8, .inl f_45)), ((r 9), .inl ((kf 9), 8, .inl f_48)), ((r 10), .inl ((kf 10), 8, .inl f_51)), ((r 11), .inl ((kf 11), 8, .inl f_54)), (h0, .inr (12, fsMk r (nI 227) 1)), ((r 12), .inl ((kf 12), 300, .inl f_190))] := hD
  have hPc := hP.sub (ws' := [(h0, .inr (12, fsMk r (nI 227) 1)), ((r 12), .inl ((kf 12), 300, .inl f_190))]) [12, 13] rfl
  have hDc := hD.sub (ws' := [(h0, .inr (12, fsMk r (nI 227) 1)), ((r 12), .inl ((kf 12), 300, .inl f_190))]) [12, 13] (by decide) rfl
  have hKc := hK.sub (tys' := [((kf 12), .int)]) [12] rfl
  have hFc := va_free (wc := [(h0, .inr (12, fsMk r (nI 227) 1)), ((r 12), .inl ((kf 12), 300, .inl f_190))]) hD hS hA [12, 13] rfl
  refine va_calli (va_runV (As := [.int 0]) (rest := [.int 23, .ref (r 4)]) ⟨hx, hb, hml, hown, hts⟩ (fX12_moves l dC dI H.size h0 r kf 227 f_190 0 (by decide)) (cwV 1 hts (gz_gV mGB_70 mGB_71 mGB_72 mGB_5 mGB_69 goodGB) rfl rfl rfl (by decide +kernel) ⟨Nat.le_of_ble_eq_true rfl, Nat.le_of_ble_eq_true rfl⟩) ⟨fun a U g mk q => by obtain ⟨q0, q1, qP, qK, qD⟩ := q; exact ⟨q0, q1, qP, va_K.moved (u := U) (U := U.calling g mk a) (Vm.Alike.refl U.vm) qK, qD⟩, va_recv hKc hPc (ci := 12) (q0 := 0) rfl rfl, fun U hU hW => ⟨rfl, by rw [hU], by rw [hU]; exact hPc, va_K.moved hW.alike hKc, hDc.weaken (fun _ _ _ _ => trivial)⟩⟩ rfl rfl hl.1 rfl (lv_room (Nat.le_of_ble_eq_true rfl)) dX12_movesAll_263 ⟨Nat.le_of_ble_eq_true rfl, Nat.le_of_ble_eq_true rfl⟩) hS (fun q _ h => hFc q h) hFc (fun r_197 u t H1 locs ht hvm hw hB hz1 hk1 hS => ?_)
  obtain ⟨f_196, hP1, hK1, hD1⟩ := hB
  rw [ht] at hP1
  have hK1 := va_K.moved hvm.symm hK1
  obtain ⟨hP, hD⟩ := va_join (wr := [((r 4), .inl ((kf 4), 24, .inl (fun _ => 0))), ((r 0), .inl ((kf 0), 6, .inl f_24)), ((r 1), .inl ((kf 1), 36, .inl f_27)), ((r 2), .inl ((kf 2), 24, .inl f_30)), ((r 3), .inl ((kf 3), 24, .inl f_33)), ((r 5), .inl ((kf 5), 24, .inl f_36)), ((r 6), .inl ((kf 6), 24, .inl f_39)), ((r 7), .inl ((kf 7), 24, .inl f_42)), ((r 8), .inl ((kf 8), 8, .inl f_45)), ((r 9), .inl ((kf 9), 8, .inl f_48)), ((r 10), .inl ((kf 10), 8, .inl f_51)), ((r 11), .inl ((kf 11), 8, .inl f_54))]) (w1 := [(h0, .inr (12, fsMk r (nI (227 + 1)) 1)), ((r 12), .inl ((kf 12), 300, .inl f_196))]) hP hD [12, 13] [0, 1, 2, 3, 4, 5, 6, 7, 8, 9, 10, 11] rfl rfl (by decide) (by decide) hk1 hFc hP1 hD1
  generalize H1 = H at hP hS ⊢
  have hP : va_P (dC, dI) vwCl [((r 4), .inl ((kf 4), 24, .inl (fun _ => 0))), ((r 0), .inl ((kf 0), 6, .inl f_24)), ((r 1), .inl ((kf 1), 36, .inl f_27)), ((r 2), .inl ((kf 2), 24, .inl f_30)), ((r 3), .inl ((kf 3), 24, .inl f_33)), ((r 5), .inl ((kf 5), 24, .inl f_36)), ((r 6), .inl ((kf 6), 24, .inl f_39)), ((r 7), .inl ((kf 7), 24, .inl f_42)), ((r 8), .inl ((kf 8), 8, .inl f_45)), ((r 9), .inl ((kf 9), 8, .inl f_48)), ((r 10), .inl ((kf 10), 8, .inl f_51)), ((r 11), .inl ((kf 11), 8, .inl f_54)), (h0, .inr (12, fsMk r (nI (227 + 1)) 1)), ((r 12), .inl ((kf 12), 300, .inl f_196))] H := hP
  have hD : va_D A [((r 4), .inl ((kf 4), 24, .inl (fun _ => 0))), ((r 0), .inl ((kf 0), 6, .inl f_24)), ((r 1), .inl ((kf 1), 36, .inl f_27)), ((r 2), .inl ((kf 2), 24, .inl f_30)), ((r 3), .inl ((kf 3), 24, .inl f_33)), ((r 5), .inl ((kf 5), 24, .inl f_36)), ((r 6), .inl ((kf 6), 24, .inl f_39)), ((r 7), .inl ((kf 7), 24, .inl f_42)), ((r 8), .inl ((kf 8), 8, .inl f_45)), ((r 9), .inl ((kf 9), 8, .inl f_48)), ((r 10), .inl ((kf 10), 8, .inl f_51)), ((r 11), .inl ((kf 11), 8, .inl f_54)), (h0, .inr (12, fsMk r (nI (227 + 1)) 1)), ((r 12), .inl ((kf 12), 300, .inl f_196))] := hD
  subst hw
  have hP : va_P (dC, dI) vwCl [((r 4), .inl ((kf 4), 24, .inl (fun _ => 0))), ((r 0), .inl ((kf 0), 6, .inl f_24)), ((r 1), .inl ((kf 1), 36, .inl f_27)), ((r 2), .inl ((kf 2), 24, .inl f_30)), ((r 3), .inl ((kf 3), 24, .inl f_33)), ((r 5), .inl ((kf 5), 24, .inl f_36)), ((r 6), .inl ((kf 6), 24, .inl f_39)), ((r 7), .inl ((kf 7), 24, .inl f_42)), ((r 8), .inl ((kf 8), 8, .inl f_45)), ((r 9), .inl ((kf 9), 8, .inl f_48)), ((r 10), .inl ((kf 10), 8, .inl f_51)), ((r 11), .inl ((kf 11), 8, .inl f_54)), (h0, .inr (12, fsMk r (nI 228) 1)), ((r 12), .inl ((kf 12), 300, .inl f_196))] H := hP
  have hD : va_D A [((r 4), .inl ((kf 4), 24, .inl (fun _ => 0))), ((r 0), .inl ((kf 0), 6, .inl f_24)), ((r 1), .inl ((kf 1), 36, .inl f_27)), ((r 2), .inl ((kf 2), 24, .inl f_30)), ((r 3), .inl ((kf 3), 24, .inl f_33)), ((r 5), .inl ((kf 5), 24, .inl f_36)), ((r 6), .inl ((kf 6), 24, .inl f_39)), ((r 7), .inl ((kf 7), 24, .inl f_42)), ((r 8), .inl ((kf 8), 8, .inl f_45)), ((r 9), .inl ((kf 9), 8, .inl f_48)), ((r 10), .inl ((kf 10), 8, .inl f_51)), ((r 11), .inl ((kf 11), 8, .inl f_54)), (h0, .inr (12, fsMk r (nI 228) 1)), ((r 12), .inl ((kf 12), 300, .inl f_196))] := hD
  refine lv_iconst (v := 1) hx hb dX12_movesAll_266 (by decide) ?_
  refine lv_icmp_ne (tgt := 274) hx hb dX12_movesAll_267 (by decide) (fun c_198 => ?_) (fun c_198 => absurd c_198 (by decide))
  refine lv_iconst (v := 0) hx hb dX12_movesAll_274 (by decide) ?_
  refine va_zast hx hb hK hP hD hS 0 11 rfl rfl (by unfold vp_in; decide) dX12_movesAll_275 (fun H locs hP hD hS => ?_)
  have hP : va_P (dC, dI) vwCl [((r 4), .inl ((kf 4), 24, .inl (upd (fun _ => 0) (23 : Int32).toNatClampNeg (vp_nar .boolean 0)))), ((r 0), .inl ((kf 0), 6, .inl f_24)), ((r 1), .inl ((kf 1), 36, .inl f_27)), ((r 2), .inl ((kf 2), 24, .inl f_30)), ((r 3), .inl ((kf 3), 24, .inl f_33)), ((r 5), .inl ((kf 5), 24, .inl f_36)), ((r 6), .inl ((kf 6), 24, .inl f_39)), ((r 7), .inl ((kf 7), 24, .inl f_42)), ((r 8), .inl ((kf 8), 8, .inl f_45)), ((r 9), .inl ((kf 9), 8, .inl f_48)), ((r 10), .inl ((kf 10), 8, .inl f_51)), ((r 11), .inl ((kf 11), 8, .inl f_54)), (h0, .inr (12, fsMk r (nI 228) 1)), ((r 12), .inl ((kf 12), 300, .inl f_196))] H := hP
  have hD : va_D A [((r 4), .inl ((kf 4), 24, .inl (upd (fun _ => 0) (23 : Int32).toNatClampNeg (vp_nar .boolean 0)))), ((r 0), .inl ((kf 0), 6, .inl f_24)), ((r 1), .inl ((kf 1), 36, .inl f_27)), ((r 2), .inl ((kf 2), 24, .inl f_30)), ((r 3), .inl ((kf 3), 24, .inl f_33)), ((r 5), .inl ((kf 5), 24, .inl f_36)), ((r 6), .inl ((kf 6), 24, .inl f_39)), ((r 7), .inl ((kf 7), 24, .inl f_42)), ((r 8), .inl ((kf 8), 8, .inl f_45)), ((r 9), .inl ((kf 9), 8, .inl f_48)), ((r 10), .inl ((kf 10), 8, .inl f_51)), ((r 11), .inl ((kf 11), 8, .inl f_54)), (h0, .inr (12, fsMk r (nI 228) 1)), ((r 12), .inl ((kf 12), 300, .inl f_196))] := hD
  rw [gz_upd0z] at hP hD
  refine lv_iinc (v := 24) (lv' := [(2, .int 24), (0, .ref h0), (1, .int 1)]) hx hb dX12_movesAll_276 hl (k := 0) rfl (by decide) (by decide) rfl (fun ls hl => ?_)
  refine lv_goto (tgt := 237) hx hb dX12_movesAll_279 (by decide) ?_
  refine lv_iload_n hx hb dX12_movesAll_237 rfl (lv_at hl 0 rfl) ?_
  refine lv_bipush (v := 24) hx hb dX12_movesAll_238 (by decide) ?_
  refine lv_icmp_ge (tgt := 282) hx hb dX12_movesAll_240 (by decide) (fun c_200 => ?_) (fun c_200 => absurd (by decide) c_200)
  have hP9 := hP.sub (ws' := [(h0, .inr (12, fsMk r (nI 228) 1))]) [12] rfl
  have hD9 := hD.sub (ws' := [(h0, .inr (12, fsMk r (nI 228) 1))]) [12] (by decide) rfl
  have hK9 := hK.sub (tys' := []) [] rfl
  exact W.vret hx hb hr (fun t ht hW => ⟨⟨(), rfl, trivial, by rw [ht]; exact hP9, va_K.moved hW.alike hK9, hD9⟩, hS.F ht⟩) hS.2.2 dX12_movesAll_282
end
section
theorem dX12_isAt_0 : decode cX12_isAt 0 = .ok (.aload_n 0, 1) := by decide +kernel
theorem dX12_isAt_1 : decode cX12_isAt 1 = .ok (.getfield 151, 3) := by decide +kernel
theorem dX12_isAt_4 : decode cX12_isAt 4 = .ok (.aload_n 0, 1) := by decide +kernel
theorem dX12_isAt_5 : decode cX12_isAt 5 = .ok (.getfield 99, 3) := by decide +kernel
theorem dX12_isAt_8 : decode cX12_isAt 8 = .ok (.if_icmp .ge 27, 3) := by decide +kernel
theorem dX12_isAt_35 : decode cX12_isAt 35 = .ok (.iconst 0, 1) := by decide +kernel
theorem dX12_isAt_36 : decode cX12_isAt 36 = .ok (.ireturn, 1) := by decide +kernel
set_option maxHeartbeats 4000000 in
set_option maxRecDepth 100000 in
theorem fX12_isAt (l : Launch) (dC : Nat → ClassId) (dI : Nat → Nat → Nat) (h0 : Nat) (r : Nat → Nat) (ka : Int32) (kp : Int32) (p0 : Int32) (p1 : Int32) : Met l yX12_isAt (.code yX12_isAt cX12_isAt 3 (some .boolean) :: wsGB) ({ frames := 0, cells := 0, slots := 0, locals := 0 }) (va_Pc [.ref h0, .int p0, .int p1] (fun U => va_P (dC, dI) vwCl [(h0, .inr (12, fsMk r ka kp))] U.heap ∧ va_K (dC, dI) vwCl [] U)) (va_Qi (fun (r : Int32) (u : Unit) => r = 0) (fun _ _ => True) (fun _ => False)) 0 0 (fun _ => False) := by
  refine Met.ofW (cc := cX12_isAt) (maxL := 3) (ret := (some .boolean)) (by decide) rfl ?_
  intro p e s m args below meth c s₁ B hml hv
  obtain ⟨rfl, hP, hK⟩ := hv
  have hx := B.exec
  have hb := B.bytes
  have hr := B.returns
  have hts := atoms_spec (ws := (.code yX12_isAt cX12_isAt 3 (some .boolean) :: wsGB)) B.pre
  have hown : s.vm.findClass RX12 = some m.cls := findClass_of_methodNamed B.named
  have hlocks := B.notSynchronized
  have hS : va_S (fun _ => False) s.heap s.heap [] := va_S.rf
  have hl := lv_entry ([.ref h0, .int p0, .int p1]) (n := 3) (Nat.le_of_ble_eq_true rfl)
  rw [lg_entry_eq]
  generalize (lg_sl ([.ref h0, .int p0, .int p1]) ++ List.replicate (3 - (lg_sl ([.ref h0, .int p0, .int p1])).length) Slot.unset).toArray = ls at hl ⊢
  have hl : lv_has ls 3 [(0, .ref h0), (1, .int p0), (2, .int p1)] := hl
  refine lv_aload_n hx hb dX12_isAt_0 rfl (lv_at hl 0 rfl) ?_
  refine va_get (D := (dC, dI)) (ci := 12) (v := .int 0) (C := RX12) (T := TX12) (N := 57) hx hb hts (fun w h => List.mem_cons_of_mem _ (jnGB_X12 w h)) hown hK hP 0 rfl rfl 29 (by decide) (hts _ (List.mem_cons_of_mem _ mGB_77)) (fun _ h9 => h9) rfl dX12_isAt_1 ?_
  refine lv_aload_n hx hb dX12_isAt_4 rfl (lv_at hl 0 rfl) ?_
  refine va_get (D := (dC, dI)) (ci := 12) (v := .int 0) (C := RX12) (T := TX12) (N := 57) hx hb hts (fun w h => List.mem_cons_of_mem _ (jnGB_X12 w h)) hown hK hP 0 rfl rfl 26 (by decide) (hts _ (List.mem_cons_of_mem _ mGB_30)) (fun _ h9 => h9) rfl dX12_isAt_5 ?_
  refine lv_icmp_ge (tgt := 35) hx hb dX12_isAt_8 (by decide) (fun c_1 => ?_) (fun c_1 => absurd (by decide) c_1)
  refine lv_iconst (v := 0) hx hb dX12_isAt_35 (by decide) ?_
  exact W.zret (v := 0) hx hb hr (by decide) (fun t ht hW => ⟨⟨0, (), rfl, rfl, trivial⟩, hS.F ht⟩) hS.2.2 dX12_isAt_36
theorem dX12_next_0 : decode cX12_next 0 = .ok (.aload_n 0, 1) := by decide +kernel
theorem dX12_next_1 : decode cX12_next 1 = .ok (.bipush 32, 2) := by decide +kernel
theorem dX12_next_3 : decode cX12_next 3 = .ok (.bipush 32, 2) := by decide +kernel
theorem dX12_next_5 : decode cX12_next 5 = .ok (.invokevirtual 154, 3) := by decide +kernel
theorem dX12_next_8 : decode cX12_next 8 = .ok (.ifCond .ne 14, 3) := by decide +kernel
theorem dX12_next_11 : decode cX12_next 11 = .ok (.aload_n 0, 1) := by decide +kernel
theorem dX12_next_12 : decode cX12_next 12 = .ok (.bipush 10, 2) := by decide +kernel
theorem dX12_next_14 : decode cX12_next 14 = .ok (.bipush 10, 2) := by decide +kernel
theorem dX12_next_16 : decode cX12_next 16 = .ok (.invokevirtual 154, 3) := by decide +kernel
theorem dX12_next_19 : decode cX12_next 19 = .ok (.ifCond .eq 16, 3) := by decide +kernel
theorem dX12_next_35 : decode cX12_next 35 = .ok (.aload_n 0, 1) := by decide +kernel
theorem dX12_next_36 : decode cX12_next 36 = .ok (.aload_n 0, 1) := by decide +kernel
theorem dX12_next_37 : decode cX12_next 37 = .ok (.getfield 151, 3) := by decide +kernel
theorem dX12_next_40 : decode cX12_next 40 = .ok (.putfield 158, 3) := by decide +kernel
theorem dX12_next_43 : decode cX12_next 43 = .ok (.aload_n 0, 1) := by decide +kernel
theorem dX12_next_44 : decode cX12_next 44 = .ok (.iconst 0, 1) := by decide +kernel
theorem dX12_next_45 : decode cX12_next 45 = .ok (.putfield 161, 3) := by decide +kernel
theorem dX12_next_48 : decode cX12_next 48 = .ok (.aload_n 0, 1) := by decide +kernel
theorem dX12_next_49 : decode cX12_next 49 = .ok (.getfield 151, 3) := by decide +kernel
theorem dX12_next_52 : decode cX12_next 52 = .ok (.aload_n 0, 1) := by decide +kernel
theorem dX12_next_53 : decode cX12_next 53 = .ok (.getfield 99, 3) := by decide +kernel
theorem dX12_next_56 : decode cX12_next 56 = .ok (.if_icmp .ne 11, 3) := by decide +kernel
theorem dX12_next_59 : decode cX12_next 59 = .ok (.aload_n 0, 1) := by decide +kernel
theorem dX12_next_60 : decode cX12_next 60 = .ok (.iconst 0, 1) := by decide +kernel
theorem dX12_next_61 : decode cX12_next 61 = .ok (.putfield 164, 3) := by decide +kernel
theorem dX12_next_64 : decode cX12_next 64 = .ok (.goto 142, 3) := by decide +kernel
theorem dX12_next_206 : decode cX12_next 206 = .ok (.return_, 1) := by decide +kernel
set_option maxHeartbeats 4000000 in
set_option maxRecDepth 100000 in
theorem fX12_next (l : Launch) (dC : Nat → ClassId) (dI : Nat → Nat → Nat) (sz : Nat) (h0 : Nat) (r : Nat → Nat) (ka : Int32) (kp : Int32) : Met l yX12_next (.code yX12_next cX12_next 1 none :: wsGB) ({ frames := 1, cells := 0, slots := 0, locals := 22 }) (va_Pc [.ref h0] (fun U => U.heap.size = sz ∧ va_P (dC, dI) vwCl [(h0, .inr (12, fsMk r ka kp))] U.heap ∧ va_K (dC, dI) vwCl [] U ∧ va_D (fun _ => True) [(h0, .inr (12, fsMk r ka kp))])) (va_Qv (fun (u : Unit) => True) (fun _ t => va_P (dC, dI) vwCl [(h0, .inr (12, fsMk r ka kp))] t.heap ∧ va_K (dC, dI) vwCl [] t ∧ va_D (va_A [(h0, .inr (12, fsMk r ka kp))] sz) [(h0, .inr (12, fsMk r ka kp))]) (va_A [(h0, .inr (12, fsMk r ka kp))] sz)) 0 0 (va_A [(h0, .inr (12, fsMk r ka kp))] sz) := by
  refine Met.ofW (cc := cX12_next) (maxL := 1) (ret := none) (by decide) rfl ?_
  intro p e s m args below meth c s₁ B hml hv
  obtain ⟨rfl, hsz, hP, hK, hD0⟩ := hv
  have hx := B.exec
  have hb := B.bytes
  have hr := B.returns
  have hts := atoms_spec (ws := (.code yX12_next cX12_next 1 none :: wsGB)) B.pre
  have hown : s.vm.findClass RX12 = some m.cls := findClass_of_methodNamed B.named
  have hlocks := B.notSynchronized
  subst hsz
  have hD := hD0.self (sz := s.heap.size)
  generalize hAe : va_A [(h0, .inr (12, fsMk r ka kp))] s.heap.size = A at hD ⊢
  have hA : ∀ q : Nat, s.heap.size ≤ q → A q := fun q h => by rw [← hAe]; exact Or.inr h
  have hS : va_S A s.heap s.heap [] := va_S.rf
  have hl := lv_entry ([.ref h0]) (n := 1) (Nat.le_of_ble_eq_true rfl)
  rw [lg_entry_eq]
  generalize (lg_sl ([.ref h0]) ++ List.replicate (1 - (lg_sl ([.ref h0])).length) Slot.unset).toArray = ls at hl ⊢
  have hl : lv_has ls 1 [(0, .ref h0)] := hl
  refine lv_aload_n hx hb dX12_next_0 rfl (lv_at hl 0 rfl) ?_
  refine lv_bipush (v := 32) hx hb dX12_next_1 (by decide) ?_
  refine lv_bipush (v := 32) hx hb dX12_next_3 (by decide) ?_
  have hPc := hP.sub (ws' := [(h0, .inr (12, fsMk r ka kp))]) [0] rfl
  have hKc := hK.sub (tys' := []) [] rfl
  refine va_calli (va_runV (As := [.int 32, .int 32]) (rest := []) ⟨hx, hb, hml, hown, hts⟩ (fX12_isAt l dC dI h0 r ka kp 32 32) (cwV 2 hts (gz_gV mGB_79 mGB_80 mGB_81 mGB_5 mGB_78 goodGB) rfl rfl rfl (by decide +kernel) ⟨Nat.le_of_ble_eq_true rfl, Nat.le_of_ble_eq_true rfl⟩) ⟨fun a U g mk q => by obtain ⟨q0, qP, qK⟩ := q; exact ⟨q0, qP, va_K.moved (u := U) (U := U.calling g mk a) (Vm.Alike.refl U.vm) qK⟩, va_recv hKc hPc (ci := 12) (q0 := 0) rfl rfl, fun U hU hW => ⟨rfl, by rw [hU]; exact hPc, va_K.moved hW.alike hKc⟩⟩ rfl rfl hl.1 rfl (lv_room (Nat.le_of_ble_eq_true rfl)) dX12_next_5 ⟨Nat.le_of_ble_eq_true rfl, Nat.le_of_ble_eq_true rfl⟩) hS (fun q _ h => h.elim) (fun q h => h.elim) (fun r_1 u t H1 locs ht hvm hw hB hz1 hk1 hS => ?_)
  have hP := gz_keep hP hk1
  generalize H1 = H at hP hS ⊢
  subst hw
  refine lv_if_ne (tgt := 22) hx hb dX12_next_8 (by decide) (fun c_2 => absurd (by decide) c_2) (fun c_2 => ?_)
  refine lv_aload_n hx hb dX12_next_11 rfl (lv_at hl 0 rfl) ?_
  refine lv_bipush (v := 10) hx hb dX12_next_12 (by decide) ?_
  refine lv_bipush (v := 10) hx hb dX12_next_14 (by decide) ?_
  have hPc := hP.sub (ws' := [(h0, .inr (12, fsMk r ka kp))]) [0] rfl
  have hKc := hK.sub (tys' := []) [] rfl
  refine va_calli (va_runV (As := [.int 10, .int 10]) (rest := []) ⟨hx, hb, hml, hown, hts⟩ (fX12_isAt l dC dI h0 r ka kp 10 10) (cwV 2 hts (gz_gV mGB_79 mGB_80 mGB_81 mGB_5 mGB_78 goodGB) rfl rfl rfl (by decide +kernel) ⟨Nat.le_of_ble_eq_true rfl, Nat.le_of_ble_eq_true rfl⟩) ⟨fun a U g mk q => by obtain ⟨q0, qP, qK⟩ := q; exact ⟨q0, qP, va_K.moved (u := U) (U := U.calling g mk a) (Vm.Alike.refl U.vm) qK⟩, va_recv hKc hPc (ci := 12) (q0 := 0) rfl rfl, fun U hU hW => ⟨rfl, by rw [hU]; exact hPc, va_K.moved hW.alike hKc⟩⟩ rfl rfl hl.1 rfl (lv_room (Nat.le_of_ble_eq_true rfl)) dX12_next_16 ⟨Nat.le_of_ble_eq_true rfl, Nat.le_of_ble_eq_true rfl⟩) hS (fun q _ h => h.elim) (fun q h => h.elim) (fun r_3 u t H1 locs ht hvm hw hB hz1 hk1 hS => ?_)
  have hP := gz_keep hP hk1
  generalize H1 = H at hP hS ⊢
  subst hw
  refine lv_if_eq (tgt := 35) hx hb dX12_next_19 (by decide) (fun c_4 => ?_) (fun c_4 => absurd (by decide) c_4)
  refine lv_aload_n hx hb dX12_next_35 rfl (lv_at hl 0 rfl) ?_
  refine lv_aload_n hx hb dX12_next_36 rfl (lv_at hl 0 rfl) ?_
  refine va_get (D := (dC, dI)) (ci := 12) (v := .int 0) (C := RX12) (T := TX12) (N := 57) hx hb hts (fun w h => List.mem_cons_of_mem _ (jnGB_X12 w h)) hown hK hP 0 rfl rfl 29 (by decide) (hts _ (List.mem_cons_of_mem _ mGB_77)) (fun _ h9 => h9) rfl dX12_next_37 ?_
  refine va_put (D := (dC, dI)) (ci := 12) (v := .int 0) (ty := .int) (C := RX12) (T := TX12) (N := 57) hx hb hts (fun w h => List.mem_cons_of_mem _ (jnGB_X12 w h)) tyX12 tyX12_ok nmX12 hown hK hP hD hS 0 rfl rfl 30 (by decide) (hts _ (List.mem_cons_of_mem _ mGB_82)) (fun _ h9 => h9) rfl (by decide +kernel) rfl rfl (Nat.le_of_ble_eq_true rfl) dX12_next_40 (fun H locs hP hD hS => ?_)
  have hP : va_P (dC, dI) vwCl [(h0, .inr (12, [.int 0, .int 0, .int 0, .int 0, .int 0, .int 0, .int 0, .int 0, .ref (r 0), .ref (r 1), .int 0, .ref (r 2), .ref (r 3), .ref (r 4), .ref (r 5), .ref (r 6), .ref (r 7), .int 0, .ref (r 8), .ref (r 9), .ref (r 10), .ref (r 11), .ref (r 12), .int ka, .int kp, .ref (r 13), .int 0, .int 0, .int (-1), .int 0, .int 0, .int 0, .int 0, .int 0, .ref (r 14), .ref (r 15), .ref (r 16), .int 0, .ref (r 17), .ref (r 18), .ref (r 19), .int 0, .int (-1), .int (-1), .int (-1), .int (-1), .ref (r 20), .int 0, .int 0, .int 0, .int 0, .int 0, .ref (r 21), .ref (r 22), .int 0, .ref (r 23), .int 0]))] H := hP
  have hD : va_D A [(h0, .inr (12, [.int 0, .int 0, .int 0, .int 0, .int 0, .int 0, .int 0, .int 0, .ref (r 0), .ref (r 1), .int 0, .ref (r 2), .ref (r 3), .ref (r 4), .ref (r 5), .ref (r 6), .ref (r 7), .int 0, .ref (r 8), .ref (r 9), .ref (r 10), .ref (r 11), .ref (r 12), .int ka, .int kp, .ref (r 13), .int 0, .int 0, .int (-1), .int 0, .int 0, .int 0, .int 0, .int 0, .ref (r 14), .ref (r 15), .ref (r 16), .int 0, .ref (r 17), .ref (r 18), .ref (r 19), .int 0, .int (-1), .int (-1), .int (-1), .int (-1), .ref (r 20), .int 0, .int 0, .int 0, .int 0, .int 0, .ref (r 21), .ref (r 22), .int 0, .ref (r 23), .int 0]))] := hD
  refine lv_aload_n hx hb dX12_next_43 rfl (lv_at hl 0 rfl) ?_
  refine lv_iconst (v := 0) hx hb dX12_next_44 (by decide) ?_
  refine va_put (D := (dC, dI)) (ci := 12) (v := .int 0) (ty := .int) (C := RX12) (T := TX12) (N := 57) hx hb hts (fun w h => List.mem_cons_of_mem _ (jnGB_X12 w h)) tyX12 tyX12_ok nmX12 hown hK hP hD hS 0 rfl rfl 32 (by decide) (hts _ (List.mem_cons_of_mem _ mGB_83)) (fun _ h9 => h9) rfl (by decide +kernel) rfl rfl (Nat.le_of_ble_eq_true rfl) dX12_next_45 (fun H locs hP hD hS => ?_)
  have hP : va_P (dC, dI) vwCl [(h0, .inr (12, [.int 0, .int 0, .int 0, .int 0, .int 0, .int 0, .int 0, .int 0, .ref (r 0), .ref (r 1), .int 0, .ref (r 2), .ref (r 3), .ref (r 4), .ref (r 5), .ref (r 6), .ref (r 7), .int 0, .ref (r 8), .ref (r 9), .ref (r 10), .ref (r 11), .ref (r 12), .int ka, .int kp, .ref (r 13), .int 0, .int 0, .int (-1), .int 0, .int 0, .int 0, .int 0, .int 0, .ref (r 14), .ref (r 15), .ref (r 16), .int 0, .ref (r 17), .ref (r 18), .ref (r 19), .int 0, .int (-1), .int (-1), .int (-1), .int (-1), .ref (r 20), .int 0, .int 0, .int 0, .int 0, .int 0, .ref (r 21), .ref (r 22), .int 0, .ref (r 23), .int 0]))] H := hP
  have hD : va_D A [(h0, .inr (12, [.int 0, .int 0, .int 0, .int 0, .int 0, .int 0, .int 0, .int 0, .ref (r 0), .ref (r 1), .int 0, .ref (r 2), .ref (r 3), .ref (r 4), .ref (r 5), .ref (r 6), .ref (r 7), .int 0, .ref (r 8), .ref (r 9), .ref (r 10), .ref (r 11), .ref (r 12), .int ka, .int kp, .ref (r 13), .int 0, .int 0, .int (-1), .int 0, .int 0, .int 0, .int 0, .int 0, .ref (r 14), .ref (r 15), .ref (r 16), .int 0, .ref (r 17), .ref (r 18), .ref (r 19), .int 0, .int (-1), .int (-1), .int (-1), .int (-1), .ref (r 20), .int 0, .int 0, .int 0, .int 0, .int 0, .ref (r 21), .ref (r 22), .int 0, .ref (r 23), .int 0]))] := hD
  refine lv_aload_n hx hb dX12_next_48 rfl (lv_at hl 0 rfl) ?_
  refine va_get (D := (dC, dI)) (ci := 12) (v := .int 0) (C := RX12) (T := TX12) (N := 57) hx hb hts (fun w h => List.mem_cons_of_mem _ (jnGB_X12 w h)) hown hK hP 0 rfl rfl 29 (by decide) (hts _ (List.mem_cons_of_mem _ mGB_77)) (fun _ h9 => h9) rfl dX12_next_49 ?_
  refine lv_aload_n hx hb dX12_next_52 rfl (lv_at hl 0 rfl) ?_
  refine va_get (D := (dC, dI)) (ci := 12) (v := .int 0) (C := RX12) (T := TX12) (N := 57) hx hb hts (fun w h => List.mem_cons_of_mem _ (jnGB_X12 w h)) hown hK hP 0 rfl rfl 26 (by decide) (hts _ (List.mem_cons_of_mem _ mGB_30)) (fun _ h9 => h9) rfl dX12_next_53 ?_
  refine lv_icmp_ne (tgt := 67) hx hb dX12_next_56 (by decide) (fun c_5 => absurd (by decide) c_5) (fun c_5 => ?_)
  refine lv_aload_n hx hb dX12_next_59 rfl (lv_at hl 0 rfl) ?_
  refine lv_iconst (v := 0) hx hb dX12_next_60 (by decide) ?_
  refine va_put (D := (dC, dI)) (ci := 12) (v := .int 0) (ty := .int) (C := RX12) (T := TX12) (N := 57) hx hb hts (fun w h => List.mem_cons_of_mem _ (jnGB_X12 w h)) tyX12 tyX12_ok nmX12 hown hK hP hD hS 0 rfl rfl 31 (by decide) (hts _ (List.mem_cons_of_mem _ mGB_84)) (fun _ h9 => h9) rfl (by decide +kernel) rfl rfl (Nat.le_of_ble_eq_true rfl) dX12_next_61 (fun H locs hP hD hS => ?_)
  have hP : va_P (dC, dI) vwCl [(h0, .inr (12, [.int 0, .int 0, .int 0, .int 0, .int 0, .int 0, .int 0, .int 0, .ref (r 0), .ref (r 1), .int 0, .ref (r 2), .ref (r 3), .ref (r 4), .ref (r 5), .ref (r 6), .ref (r 7), .int 0, .ref (r 8), .ref (r 9), .ref (r 10), .ref (r 11), .ref (r 12), .int ka, .int kp, .ref (r 13), .int 0, .int 0, .int (-1), .int 0, .int 0, .int 0, .int 0, .int 0, .ref (r 14), .ref (r 15), .ref (r 16), .int 0, .ref (r 17), .ref (r 18), .ref (r 19), .int 0, .int (-1), .int (-1), .int (-1), .int (-1), .ref (r 20), .int 0, .int 0, .int 0, .int 0, .int 0, .ref (r 21), .ref (r 22), .int 0, .ref (r 23), .int 0]))] H := hP
  have hD : va_D A [(h0, .inr (12, [.int 0, .int 0, .int 0, .int 0, .int 0, .int 0, .int 0, .int 0, .ref (r 0), .ref (r 1), .int 0, .ref (r 2), .ref (r 3), .ref (r 4), .ref (r 5), .ref (r 6), .ref (r 7), .int 0, .ref (r 8), .ref (r 9), .ref (r 10), .ref (r 11), .ref (r 12), .int ka, .int kp, .ref (r 13), .int 0, .int 0, .int (-1), .int 0, .int 0, .int 0, .int 0, .int 0, .ref (r 14), .ref (r 15), .ref (r 16), .int 0, .ref (r 17), .ref (r 18), .ref (r 19), .int 0, .int (-1), .int (-1), .int (-1), .int (-1), .ref (r 20), .int 0, .int 0, .int 0, .int 0, .int 0, .ref (r 21), .ref (r 22), .int 0, .ref (r 23), .int 0]))] := hD
  refine lv_goto (tgt := 206) hx hb dX12_next_64 (by decide) ?_
  have hP9 := hP.sub (ws' := [(h0, .inr (12, [.int 0, .int 0, .int 0, .int 0, .int 0, .int 0, .int 0, .int 0, .ref (r 0), .ref (r 1), .int 0, .ref (r 2), .ref (r 3), .ref (r 4), .ref (r 5), .ref (r 6), .ref (r 7), .int 0, .ref (r 8), .ref (r 9), .ref (r 10), .ref (r 11), .ref (r 12), .int ka, .int kp, .ref (r 13), .int 0, .int 0, .int (-1), .int 0, .int 0, .int 0, .int 0, .int 0, .ref (r 14), .ref (r 15), .ref (r 16), .int 0, .ref (r 17), .ref (r 18), .ref (r 19), .int 0, .int (-1), .int (-1), .int (-1), .int (-1), .ref (r 20), .int 0, .int 0, .int 0, .int 0, .int 0, .ref (r 21), .ref (r 22), .int 0, .ref (r 23), .int 0]))]) [0] rfl
  have hD9 := hD.sub (ws' := [(h0, .inr (12, [.int 0, .int 0, .int 0, .int 0, .int 0, .int 0, .int 0, .int 0, .ref (r 0), .ref (r 1), .int 0, .ref (r 2), .ref (r 3), .ref (r 4), .ref (r 5), .ref (r 6), .ref (r 7), .int 0, .ref (r 8), .ref (r 9), .ref (r 10), .ref (r 11), .ref (r 12), .int ka, .int kp, .ref (r 13), .int 0, .int 0, .int (-1), .int 0, .int 0, .int 0, .int 0, .int 0, .ref (r 14), .ref (r 15), .ref (r 16), .int 0, .ref (r 17), .ref (r 18), .ref (r 19), .int 0, .int (-1), .int (-1), .int (-1), .int (-1), .ref (r 20), .int 0, .int 0, .int 0, .int 0, .int 0, .ref (r 21), .ref (r 22), .int 0, .ref (r 23), .int 0]))]) [0] (by decide) rfl
  have hK9 := hK.sub (tys' := []) [] rfl
  exact W.vret hx hb hr (fun t ht hW => ⟨⟨(), rfl, trivial, by rw [ht]; exact hP9, va_K.moved hW.alike hK9, hD9⟩, hS.F ht⟩) hS.2.2 dX12_next_206
theorem dX12_almanac_0 : decode cX12_almanac 0 = .ok (.aload_n 0, 1) := by decide +kernel
theorem dX12_almanac_1 : decode cX12_almanac 1 = .ok (.iconst 1, 1) := by decide +kernel
theorem dX12_almanac_2 : decode cX12_almanac 2 = .ok (.invokevirtual 283, 3) := by decide +kernel
theorem dX12_almanac_5 : decode cX12_almanac 5 = .ok (.aload_n 0, 1) := by decide +kernel
theorem dX12_almanac_6 : decode cX12_almanac 6 = .ok (.iconst 0, 1) := by decide +kernel
theorem dX12_almanac_7 : decode cX12_almanac 7 = .ok (.putfield 117, 3) := by decide +kernel
theorem dX12_almanac_10 : decode cX12_almanac 10 = .ok (.aload_n 0, 1) := by decide +kernel
theorem dX12_almanac_11 : decode cX12_almanac 11 = .ok (.iconst 0, 1) := by decide +kernel
theorem dX12_almanac_12 : decode cX12_almanac 12 = .ok (.putfield 120, 3) := by decide +kernel
theorem dX12_almanac_15 : decode cX12_almanac 15 = .ok (.aload_n 0, 1) := by decide +kernel
theorem dX12_almanac_16 : decode cX12_almanac 16 = .ok (.iconst 0, 1) := by decide +kernel
theorem dX12_almanac_17 : decode cX12_almanac 17 = .ok (.putfield 123, 3) := by decide +kernel
theorem dX12_almanac_20 : decode cX12_almanac 20 = .ok (.aload_n 0, 1) := by decide +kernel
theorem dX12_almanac_21 : decode cX12_almanac 21 = .ok (.iconst 0, 1) := by decide +kernel
theorem dX12_almanac_22 : decode cX12_almanac 22 = .ok (.putfield 126, 3) := by decide +kernel
theorem dX12_almanac_25 : decode cX12_almanac 25 = .ok (.aload_n 0, 1) := by decide +kernel
theorem dX12_almanac_26 : decode cX12_almanac 26 = .ok (.iconst 0, 1) := by decide +kernel
theorem dX12_almanac_27 : decode cX12_almanac 27 = .ok (.putfield 129, 3) := by decide +kernel
theorem dX12_almanac_30 : decode cX12_almanac 30 = .ok (.aload_n 0, 1) := by decide +kernel
theorem dX12_almanac_31 : decode cX12_almanac 31 = .ok (.iconst 0, 1) := by decide +kernel
theorem dX12_almanac_32 : decode cX12_almanac 32 = .ok (.putfield 132, 3) := by decide +kernel
theorem dX12_almanac_35 : decode cX12_almanac 35 = .ok (.aload_n 0, 1) := by decide +kernel
theorem dX12_almanac_36 : decode cX12_almanac 36 = .ok (.iconst 0, 1) := by decide +kernel
theorem dX12_almanac_37 : decode cX12_almanac 37 = .ok (.putfield 135, 3) := by decide +kernel
theorem dX12_almanac_40 : decode cX12_almanac 40 = .ok (.aload_n 0, 1) := by decide +kernel
theorem dX12_almanac_41 : decode cX12_almanac 41 = .ok (.iconst 0, 1) := by decide +kernel
theorem dX12_almanac_42 : decode cX12_almanac 42 = .ok (.putfield 138, 3) := by decide +kernel
theorem dX12_almanac_45 : decode cX12_almanac 45 = .ok (.aload_n 0, 1) := by decide +kernel
theorem dX12_almanac_46 : decode cX12_almanac 46 = .ok (.iconst 0, 1) := by decide +kernel
theorem dX12_almanac_47 : decode cX12_almanac 47 = .ok (.putfield 141, 3) := by decide +kernel
theorem dX12_almanac_50 : decode cX12_almanac 50 = .ok (.aload_n 0, 1) := by decide +kernel
theorem dX12_almanac_51 : decode cX12_almanac 51 = .ok (.iconst 0, 1) := by decide +kernel
theorem dX12_almanac_52 : decode cX12_almanac 52 = .ok (.putfield 144, 3) := by decide +kernel
theorem dX12_almanac_55 : decode cX12_almanac 55 = .ok (.aload_n 0, 1) := by decide +kernel
theorem dX12_almanac_56 : decode cX12_almanac 56 = .ok (.iconst 0, 1) := by decide +kernel
theorem dX12_almanac_57 : decode cX12_almanac 57 = .ok (.putfield 151, 3) := by decide +kernel
theorem dX12_almanac_60 : decode cX12_almanac 60 = .ok (.aload_n 0, 1) := by decide +kernel
theorem dX12_almanac_61 : decode cX12_almanac 61 = .ok (.iconst 0, 1) := by decide +kernel
theorem dX12_almanac_62 : decode cX12_almanac 62 = .ok (.putfield 174, 3) := by decide +kernel
theorem dX12_almanac_65 : decode cX12_almanac 65 = .ok (.aload_n 0, 1) := by decide +kernel
theorem dX12_almanac_66 : decode cX12_almanac 66 = .ok (.iconst 0, 1) := by decide +kernel
theorem dX12_almanac_67 : decode cX12_almanac 67 = .ok (.putfield 177, 3) := by decide +kernel
theorem dX12_almanac_70 : decode cX12_almanac 70 = .ok (.aload_n 0, 1) := by decide +kernel
theorem dX12_almanac_71 : decode cX12_almanac 71 = .ok (.iconst (-1), 1) := by decide +kernel
theorem dX12_almanac_72 : decode cX12_almanac 72 = .ok (.putfield 53, 3) := by decide +kernel
theorem dX12_almanac_75 : decode cX12_almanac 75 = .ok (.aload_n 0, 1) := by decide +kernel
theorem dX12_almanac_76 : decode cX12_almanac 76 = .ok (.invokevirtual 198, 3) := by decide +kernel
theorem dX12_almanac_79 : decode cX12_almanac 79 = .ok (.aload_n 0, 1) := by decide +kernel
theorem dX12_almanac_80 : decode cX12_almanac 80 = .ok (.getfield 174, 3) := by decide +kernel
theorem dX12_almanac_83 : decode cX12_almanac 83 = .ok (.ifCond .ne 17, 3) := by decide +kernel
theorem dX12_almanac_86 : decode cX12_almanac 86 = .ok (.aload_n 0, 1) := by decide +kernel
theorem dX12_almanac_87 : decode cX12_almanac 87 = .ok (.getfield 164, 3) := by decide +kernel
theorem dX12_almanac_90 : decode cX12_almanac 90 = .ok (.ifCond .eq 10, 3) := by decide +kernel
theorem dX12_almanac_100 : decode cX12_almanac 100 = .ok (.aload_n 0, 1) := by decide +kernel
theorem dX12_almanac_101 : decode cX12_almanac 101 = .ok (.iconst 0, 1) := by decide +kernel
theorem dX12_almanac_102 : decode cX12_almanac 102 = .ok (.putfield 99, 3) := by decide +kernel
theorem dX12_almanac_105 : decode cX12_almanac 105 = .ok (.aload_n 0, 1) := by decide +kernel
theorem dX12_almanac_106 : decode cX12_almanac 106 = .ok (.getfield 174, 3) := by decide +kernel
theorem dX12_almanac_109 : decode cX12_almanac 109 = .ok (.ifCond .eq 11, 3) := by decide +kernel
theorem dX12_almanac_120 : decode cX12_almanac 120 = .ok (.aload_n 0, 1) := by decide +kernel
theorem dX12_almanac_121 : decode cX12_almanac 121 = .ok (.getfield 126, 3) := by decide +kernel
theorem dX12_almanac_124 : decode cX12_almanac 124 = .ok (.ireturn, 1) := by decide +kernel
set_option maxHeartbeats 4000000 in
set_option maxRecDepth 100000 in
theorem fX12_almanac (l : Launch) (dC : Nat → ClassId) (dI : Nat → Nat → Nat) (sz : Nat) (h0 : Nat) (r : Nat → Nat) (kf : Nat → ClassId) : Met l yX12_almanac (.code yX12_almanac cX12_almanac 1 (some .int) :: wsGB) ({ frames := 3, cells := 0, slots := 0, locals := 66 }) (va_Pc [.ref h0] (fun U => U.heap.size = sz ∧ va_P (dC, dI) vwCl [(h0, .inr (12, fsM r)), ((r 0), .inl ((kf 0), 6, .inl (fun _ => 0))), ((r 1), .inl ((kf 1), 36, .inl (fun _ => 0))), ((r 2), .inl ((kf 2), 24, .inl (fun _ => 0))), ((r 3), .inl ((kf 3), 24, .inl (fun _ => 0))), ((r 5), .inl ((kf 5), 24, .inl (fun _ => 0))), ((r 6), .inl ((kf 6), 24, .inl (fun _ => 0))), ((r 7), .inl ((kf 7), 24, .inl (fun _ => 0))), ((r 8), .inl ((kf 8), 8, .inl (fun _ => 0))), ((r 9), .inl ((kf 9), 8, .inl (fun _ => 0))), ((r 10), .inl ((kf 10), 8, .inl (fun _ => 0))), ((r 11), .inl ((kf 11), 8, .inl (fun _ => 0))), ((r 4), .inl ((kf 4), 24, .inl (fun _ => 0))), ((r 12), .inl ((kf 12), 300, .inl (fun _ => 0)))] U.heap ∧ va_K (dC, dI) vwCl [((kf 0), .int), ((kf 1), .int), ((kf 2), .int), ((kf 3), .int), ((kf 5), .int), ((kf 6), .int), ((kf 7), .int), ((kf 8), .int), ((kf 9), .int), ((kf 10), .int), ((kf 11), .int), ((kf 4), .boolean), ((kf 12), .int)] U ∧ va_D (fun _ => True) [(h0, .inr (12, fsM r)), ((r 0), .inl ((kf 0), 6, .inl (fun _ => 0))), ((r 1), .inl ((kf 1), 36, .inl (fun _ => 0))), ((r 2), .inl ((kf 2), 24, .inl (fun _ => 0))), ((r 3), .inl ((kf 3), 24, .inl (fun _ => 0))), ((r 5), .inl ((kf 5), 24, .inl (fun _ => 0))), ((r 6), .inl ((kf 6), 24, .inl (fun _ => 0))), ((r 7), .inl ((kf 7), 24, .inl (fun _ => 0))), ((r 8), .inl ((kf 8), 8, .inl (fun _ => 0))), ((r 9), .inl ((kf 9), 8, .inl (fun _ => 0))), ((r 10), .inl ((kf 10), 8, .inl (fun _ => 0))), ((r 11), .inl ((kf 11), 8, .inl (fun _ => 0))), ((r 4), .inl ((kf 4), 24, .inl (fun _ => 0))), ((r 12), .inl ((kf 12), 300, .inl (fun _ => 0)))])) (va_Qi (fun (r : Int32) (u : Unit) => r = 0) (fun _ _ => True) (va_A [(h0, .inr (12, fsM r)), ((r 0), .inl ((kf 0), 6, .inl (fun _ => 0))), ((r 1), .inl ((kf 1), 36, .inl (fun _ => 0))), ((r 2), .inl ((kf 2), 24, .inl (fun _ => 0))), ((r 3), .inl ((kf 3), 24, .inl (fun _ => 0))), ((r 5), .inl ((kf 5), 24, .inl (fun _ => 0))), ((r 6), .inl ((kf 6), 24, .inl (fun _ => 0))), ((r 7), .inl ((kf 7), 24, .inl (fun _ => 0))), ((r 8), .inl ((kf 8), 8, .inl (fun _ => 0))), ((r 9), .inl ((kf 9), 8, .inl (fun _ => 0))), ((r 10), .inl ((kf 10), 8, .inl (fun _ => 0))), ((r 11), .inl ((kf 11), 8, .inl (fun _ => 0))), ((r 4), .inl ((kf 4), 24, .inl (fun _ => 0))), ((r 12), .inl ((kf 12), 300, .inl (fun _ => 0)))] sz)) 0 0 (va_A [(h0, .inr (12, fsM r)), ((r 0), .inl ((kf 0), 6, .inl (fun _ => 0))), ((r 1), .inl ((kf 1), 36, .inl (fun _ => 0))), ((r 2), .inl ((kf 2), 24, .inl (fun _ => 0))), ((r 3), .inl ((kf 3), 24, .inl (fun _ => 0))), ((r 5), .inl ((kf 5), 24, .inl (fun _ => 0))), ((r 6), .inl ((kf 6), 24, .inl (fun _ => 0))), ((r 7), .inl ((kf 7), 24, .inl (fun _ => 0))), ((r 8), .inl ((kf 8), 8, .inl (fun _ => 0))), ((r 9), .inl ((kf 9), 8, .inl (fun _ => 0))), ((r 10), .inl ((kf 10), 8, .inl (fun _ => 0))), ((r 11), .inl ((kf 11), 8, .inl (fun _ => 0))), ((r 4), .inl ((kf 4), 24, .inl (fun _ => 0))), ((r 12), .inl ((kf 12), 300, .inl (fun _ => 0)))] sz) := by
  refine Met.ofW (cc := cX12_almanac) (maxL := 1) (ret := (some .int)) (by decide) rfl ?_
  intro p e s m args below meth c s₁ B hml hv
  obtain ⟨rfl, hsz, hP, hK, hD0⟩ := hv
  have hx := B.exec
  have hb := B.bytes
  have hr := B.returns
  have hts := atoms_spec (ws := (.code yX12_almanac cX12_almanac 1 (some .int) :: wsGB)) B.pre
  have hown : s.vm.findClass RX12 = some m.cls := findClass_of_methodNamed B.named
  have hlocks := B.notSynchronized
  subst hsz
  have hD := hD0.self (sz := s.heap.size)
  generalize hAe : va_A [(h0, .inr (12, fsM r)), ((r 0), .inl ((kf 0), 6, .inl (fun _ => 0))), ((r 1), .inl ((kf 1), 36, .inl (fun _ => 0))), ((r 2), .inl ((kf 2), 24, .inl (fun _ => 0))), ((r 3), .inl ((kf 3), 24, .inl (fun _ => 0))), ((r 5), .inl ((kf 5), 24, .inl (fun _ => 0))), ((r 6), .inl ((kf 6), 24, .inl (fun _ => 0))), ((r 7), .inl ((kf 7), 24, .inl (fun _ => 0))), ((r 8), .inl ((kf 8), 8, .inl (fun _ => 0))), ((r 9), .inl ((kf 9), 8, .inl (fun _ => 0))), ((r 10), .inl ((kf 10), 8, .inl (fun _ => 0))), ((r 11), .inl ((kf 11), 8, .inl (fun _ => 0))), ((r 4), .inl ((kf 4), 24, .inl (fun _ => 0))), ((r 12), .inl ((kf 12), 300, .inl (fun _ => 0)))] s.heap.size = A at hD ⊢
  have hA : ∀ q : Nat, s.heap.size ≤ q → A q := fun q h => by rw [← hAe]; exact Or.inr h
  have hS : va_S A s.heap s.heap [] := va_S.rf
  have hl := lv_entry ([.ref h0]) (n := 1) (Nat.le_of_ble_eq_true rfl)
  rw [lg_entry_eq]
  generalize (lg_sl ([.ref h0]) ++ List.replicate (1 - (lg_sl ([.ref h0])).length) Slot.unset).toArray = ls at hl ⊢
  have hl : lv_has ls 1 [(0, .ref h0)] := hl
  refine lv_aload_n hx hb dX12_almanac_0 rfl (lv_at hl 0 rfl) ?_
  refine lv_iconst (v := 1) hx hb dX12_almanac_1 (by decide) ?_
  have hPc := hP.sub (ws' := [(h0, .inr (12, fsM r)), ((r 0), .inl ((kf 0), 6, .inl (fun _ => 0))), ((r 1), .inl ((kf 1), 36, .inl (fun _ => 0))), ((r 2), .inl ((kf 2), 24, .inl (fun _ => 0))), ((r 3), .inl ((kf 3), 24, .inl (fun _ => 0))), ((r 5), .inl ((kf 5), 24, .inl (fun _ => 0))), ((r 6), .inl ((kf 6), 24, .inl (fun _ => 0))), ((r 7), .inl ((kf 7), 24, .inl (fun _ => 0))), ((r 8), .inl ((kf 8), 8, .inl (fun _ => 0))), ((r 9), .inl ((kf 9), 8, .inl (fun _ => 0))), ((r 10), .inl ((kf 10), 8, .inl (fun _ => 0))), ((r 11), .inl ((kf 11), 8, .inl (fun _ => 0))), ((r 4), .inl ((kf 4), 24, .inl (fun _ => 0))), ((r 12), .inl ((kf 12), 300, .inl (fun _ => 0)))]) [0, 1, 2, 3, 4, 5, 6, 7, 8, 9, 10, 11, 12, 13] rfl
  have hDc := hD.sub (ws' := [(h0, .inr (12, fsM r)), ((r 0), .inl ((kf 0), 6, .inl (fun _ => 0))), ((r 1), .inl ((kf 1), 36, .inl (fun _ => 0))), ((r 2), .inl ((kf 2), 24, .inl (fun _ => 0))), ((r 3), .inl ((kf 3), 24, .inl (fun _ => 0))), ((r 5), .inl ((kf 5), 24, .inl (fun _ => 0))), ((r 6), .inl ((kf 6), 24, .inl (fun _ => 0))), ((r 7), .inl ((kf 7), 24, .inl (fun _ => 0))), ((r 8), .inl ((kf 8), 8, .inl (fun _ => 0))), ((r 9), .inl ((kf 9), 8, .inl (fun _ => 0))), ((r 10), .inl ((kf 10), 8, .inl (fun _ => 0))), ((r 11), .inl ((kf 11), 8, .inl (fun _ => 0))), ((r 4), .inl ((kf 4), 24, .inl (fun _ => 0))), ((r 12), .inl ((kf 12), 300, .inl (fun _ => 0)))]) [0, 1, 2, 3, 4, 5, 6, 7, 8, 9, 10, 11, 12, 13] (by decide) rfl
  have hKc := hK.sub (tys' := [((kf 0), .int), ((kf 1), .int), ((kf 2), .int), ((kf 3), .int), ((kf 5), .int), ((kf 6), .int), ((kf 7), .int), ((kf 8), .int), ((kf 9), .int), ((kf 10), .int), ((kf 11), .int), ((kf 4), .boolean), ((kf 12), .int)]) [0, 1, 2, 3, 4, 5, 6, 7, 8, 9, 10, 11, 12] rfl
  have hFc := va_free (wc := [(h0, .inr (12, fsM r)), ((r 0), .inl ((kf 0), 6, .inl (fun _ => 0))), ((r 1), .inl ((kf 1), 36, .inl (fun _ => 0))), ((r 2), .inl ((kf 2), 24, .inl (fun _ => 0))), ((r 3), .inl ((kf 3), 24, .inl (fun _ => 0))), ((r 5), .inl ((kf 5), 24, .inl (fun _ => 0))), ((r 6), .inl ((kf 6), 24, .inl (fun _ => 0))), ((r 7), .inl ((kf 7), 24, .inl (fun _ => 0))), ((r 8), .inl ((kf 8), 8, .inl (fun _ => 0))), ((r 9), .inl ((kf 9), 8, .inl (fun _ => 0))), ((r 10), .inl ((kf 10), 8, .inl (fun _ => 0))), ((r 11), .inl ((kf 11), 8, .inl (fun _ => 0))), ((r 4), .inl ((kf 4), 24, .inl (fun _ => 0))), ((r 12), .inl ((kf 12), 300, .inl (fun _ => 0)))]) hD hS hA [0, 1, 2, 3, 4, 5, 6, 7, 8, 9, 10, 11, 12, 13] rfl
  refine va_callv (va_runV (As := [.int 1]) (rest := []) ⟨hx, hb, hml, hown, hts⟩ (fX12_movesAll l dC dI s.heap.size h0 r kf) (cwV 1 hts (gz_gV mGB_86 mGB_87 mGB_88 mGB_5 mGB_85 goodGB) rfl rfl rfl (by decide +kernel) ⟨Nat.le_of_ble_eq_true rfl, Nat.le_of_ble_eq_true rfl⟩) ⟨fun a U g mk q => by obtain ⟨q0, q1, qP, qK, qD⟩ := q; exact ⟨q0, q1, qP, va_K.moved (u := U) (U := U.calling g mk a) (Vm.Alike.refl U.vm) qK, qD⟩, va_recv hKc hPc (ci := 12) (q0 := 0) rfl rfl, fun U hU hW => ⟨rfl, by rw [hU], by rw [hU]; exact hPc, va_K.moved hW.alike hKc, hDc.weaken (fun _ _ _ _ => trivial)⟩⟩ rfl rfl hl.1 rfl (lv_room (Nat.le_of_ble_eq_true rfl)) dX12_almanac_2 ⟨Nat.le_of_ble_eq_true rfl, Nat.le_of_ble_eq_true rfl⟩) hS (fun q _ h => hFc q h) hFc (fun  u t H1 locs ht hvm hw hB hz1 hk1 hS => ?_)
  obtain ⟨hP1, hK1, hD1⟩ := hB
  rw [ht] at hP1
  have hK1 := va_K.moved hvm.symm hK1
  obtain ⟨hP, hD⟩ := va_join (wr := []) (w1 := [(h0, .inr (12, fsMk r (nI 228) 1))]) hP hD [0, 1, 2, 3, 4, 5, 6, 7, 8, 9, 10, 11, 12, 13] [] rfl rfl (by decide) (by decide) hk1 hFc hP1 hD1
  generalize H1 = H at hP hS ⊢
  have hP : va_P (dC, dI) vwCl [(h0, .inr (12, fsMk r (nI 228) 1))] H := hP
  have hD : va_D A [(h0, .inr (12, fsMk r (nI 228) 1))] := hD
  refine lv_aload_n hx hb dX12_almanac_5 rfl (lv_at hl 0 rfl) ?_
  refine lv_iconst (v := 0) hx hb dX12_almanac_6 (by decide) ?_
  refine va_put (D := (dC, dI)) (ci := 12) (v := .int 0) (ty := .int) (C := RX12) (T := TX12) (N := 57) hx hb hts (fun w h => List.mem_cons_of_mem _ (jnGB_X12 w h)) tyX12 tyX12_ok nmX12 hown hK hP hD hS 0 rfl rfl 0 (by decide) (hts _ (List.mem_cons_of_mem _ mGB_27)) (fun _ h9 => h9) rfl (by decide +kernel) rfl rfl (Nat.le_of_ble_eq_true rfl) dX12_almanac_7 (fun H locs hP hD hS => ?_)
  have hP : va_P (dC, dI) vwCl [(h0, .inr (12, [.int 0, .int 0, .int 0, .int 0, .int 0, .int 0, .int 0, .int 0, .ref (r 0), .ref (r 1), .int 0, .ref (r 2), .ref (r 3), .ref (r 4), .ref (r 5), .ref (r 6), .ref (r 7), .int 0, .ref (r 8), .ref (r 9), .ref (r 10), .ref (r 11), .ref (r 12), .int (nI 228), .int 1, .ref (r 13), .int 0, .int 0, .int (-1), .int 0, .int 0, .int 0, .int 0, .int 0, .ref (r 14), .ref (r 15), .ref (r 16), .int 0, .ref (r 17), .ref (r 18), .ref (r 19), .int 0, .int (-1), .int (-1), .int (-1), .int (-1), .ref (r 20), .int 0, .int 0, .int 0, .int 0, .int 0, .ref (r 21), .ref (r 22), .int 0, .ref (r 23), .int 0]))] H := hP
  have hD : va_D A [(h0, .inr (12, [.int 0, .int 0, .int 0, .int 0, .int 0, .int 0, .int 0, .int 0, .ref (r 0), .ref (r 1), .int 0, .ref (r 2), .ref (r 3), .ref (r 4), .ref (r 5), .ref (r 6), .ref (r 7), .int 0, .ref (r 8), .ref (r 9), .ref (r 10), .ref (r 11), .ref (r 12), .int (nI 228), .int 1, .ref (r 13), .int 0, .int 0, .int (-1), .int 0, .int 0, .int 0, .int 0, .int 0, .ref (r 14), .ref (r 15), .ref (r 16), .int 0, .ref (r 17), .ref (r 18), .ref (r 19), .int 0, .int (-1), .int (-1), .int (-1), .int (-1), .ref (r 20), .int 0, .int 0, .int 0, .int 0, .int 0, .ref (r 21), .ref (r 22), .int 0, .ref (r 23), .int 0]))] := hD
  refine lv_aload_n hx hb dX12_almanac_10 rfl (lv_at hl 0 rfl) ?_
  refine lv_iconst (v := 0) hx hb dX12_almanac_11 (by decide) ?_
  refine va_put (D := (dC, dI)) (ci := 12) (v := .int 0) (ty := .int) (C := RX12) (T := TX12) (N := 57) hx hb hts (fun w h => List.mem_cons_of_mem _ (jnGB_X12 w h)) tyX12 tyX12_ok nmX12 hown hK hP hD hS 0 rfl rfl 1 (by decide) (hts _ (List.mem_cons_of_mem _ mGB_28)) (fun _ h9 => h9) rfl (by decide +kernel) rfl rfl (Nat.le_of_ble_eq_true rfl) dX12_almanac_12 (fun H locs hP hD hS => ?_)
  have hP : va_P (dC, dI) vwCl [(h0, .inr (12, [.int 0, .int 0, .int 0, .int 0, .int 0, .int 0, .int 0, .int 0, .ref (r 0), .ref (r 1), .int 0, .ref (r 2), .ref (r 3), .ref (r 4), .ref (r 5), .ref (r 6), .ref (r 7), .int 0, .ref (r 8), .ref (r 9), .ref (r 10), .ref (r 11), .ref (r 12), .int (nI 228), .int 1, .ref (r 13), .int 0, .int 0, .int (-1), .int 0, .int 0, .int 0, .int 0, .int 0, .ref (r 14), .ref (r 15), .ref (r 16), .int 0, .ref (r 17), .ref (r 18), .ref (r 19), .int 0, .int (-1), .int (-1), .int (-1), .int (-1), .ref (r 20), .int 0, .int 0, .int 0, .int 0, .int 0, .ref (r 21), .ref (r 22), .int 0, .ref (r 23), .int 0]))] H := hP
  have hD : va_D A [(h0, .inr (12, [.int 0, .int 0, .int 0, .int 0, .int 0, .int 0, .int 0, .int 0, .ref (r 0), .ref (r 1), .int 0, .ref (r 2), .ref (r 3), .ref (r 4), .ref (r 5), .ref (r 6), .ref (r 7), .int 0, .ref (r 8), .ref (r 9), .ref (r 10), .ref (r 11), .ref (r 12), .int (nI 228), .int 1, .ref (r 13), .int 0, .int 0, .int (-1), .int 0, .int 0, .int 0, .int 0, .int 0, .ref (r 14), .ref (r 15), .ref (r 16), .int 0, .ref (r 17), .ref (r 18), .ref (r 19), .int 0, .int (-1), .int (-1), .int (-1), .int (-1), .ref (r 20), .int 0, .int 0, .int 0, .int 0, .int 0, .ref (r 21), .ref (r 22), .int 0, .ref (r 23), .int 0]))] := hD
  refine lv_aload_n hx hb dX12_almanac_15 rfl (lv_at hl 0 rfl) ?_
  refine lv_iconst (v := 0) hx hb dX12_almanac_16 (by decide) ?_
  refine va_put (D := (dC, dI)) (ci := 12) (v := .int 0) (ty := .int) (C := RX12) (T := TX12) (N := 57) hx hb hts (fun w h => List.mem_cons_of_mem _ (jnGB_X12 w h)) tyX12 tyX12_ok nmX12 hown hK hP hD hS 0 rfl rfl 2 (by decide) (hts _ (List.mem_cons_of_mem _ mGB_29)) (fun _ h9 => h9) rfl (by decide +kernel) rfl rfl (Nat.le_of_ble_eq_true rfl) dX12_almanac_17 (fun H locs hP hD hS => ?_)
  have hP : va_P (dC, dI) vwCl [(h0, .inr (12, [.int 0, .int 0, .int 0, .int 0, .int 0, .int 0, .int 0, .int 0, .ref (r 0), .ref (r 1), .int 0, .ref (r 2), .ref (r 3), .ref (r 4), .ref (r 5), .ref (r 6), .ref (r 7), .int 0, .ref (r 8), .ref (r 9), .ref (r 10), .ref (r 11), .ref (r 12), .int (nI 228), .int 1, .ref (r 13), .int 0, .int 0, .int (-1), .int 0, .int 0, .int 0, .int 0, .int 0, .ref (r 14), .ref (r 15), .ref (r 16), .int 0, .ref (r 17), .ref (r 18), .ref (r 19), .int 0, .int (-1), .int (-1), .int (-1), .int (-1), .ref (r 20), .int 0, .int 0, .int 0, .int 0, .int 0, .ref (r 21), .ref (r 22), .int 0, .ref (r 23), .int 0]))] H := hP
  have hD : va_D A [(h0, .inr (12, [.int 0, .int 0, .int 0, .int 0, .int 0, .int 0, .int 0, .int 0, .ref (r 0), .ref (r 1), .int 0, .ref (r 2), .ref (r 3), .ref (r 4), .ref (r 5), .ref (r 6), .ref (r 7), .int 0, .ref (r 8), .ref (r 9), .ref (r 10), .ref (r 11), .ref (r 12), .int (nI 228), .int 1, .ref (r 13), .int 0, .int 0, .int (-1), .int 0, .int 0, .int 0, .int 0, .int 0, .ref (r 14), .ref (r 15), .ref (r 16), .int 0, .ref (r 17), .ref (r 18), .ref (r 19), .int 0, .int (-1), .int (-1), .int (-1), .int (-1), .ref (r 20), .int 0, .int 0, .int 0, .int 0, .int 0, .ref (r 21), .ref (r 22), .int 0, .ref (r 23), .int 0]))] := hD
  refine lv_aload_n hx hb dX12_almanac_20 rfl (lv_at hl 0 rfl) ?_
  refine lv_iconst (v := 0) hx hb dX12_almanac_21 (by decide) ?_
  refine va_put (D := (dC, dI)) (ci := 12) (v := .int 0) (ty := .int) (C := RX12) (T := TX12) (N := 57) hx hb hts (fun w h => List.mem_cons_of_mem _ (jnGB_X12 w h)) tyX12 tyX12_ok nmX12 hown hK hP hD hS 0 rfl rfl 3 (by decide) (hts _ (List.mem_cons_of_mem _ mGB_0)) (fun _ h9 => h9) rfl (by decide +kernel) rfl rfl (Nat.le_of_ble_eq_true rfl) dX12_almanac_22 (fun H locs hP hD hS => ?_)
  have hP : va_P (dC, dI) vwCl [(h0, .inr (12, [.int 0, .int 0, .int 0, .int 0, .int 0, .int 0, .int 0, .int 0, .ref (r 0), .ref (r 1), .int 0, .ref (r 2), .ref (r 3), .ref (r 4), .ref (r 5), .ref (r 6), .ref (r 7), .int 0, .ref (r 8), .ref (r 9), .ref (r 10), .ref (r 11), .ref (r 12), .int (nI 228), .int 1, .ref (r 13), .int 0, .int 0, .int (-1), .int 0, .int 0, .int 0, .int 0, .int 0, .ref (r 14), .ref (r 15), .ref (r 16), .int 0, .ref (r 17), .ref (r 18), .ref (r 19), .int 0, .int (-1), .int (-1), .int (-1), .int (-1), .ref (r 20), .int 0, .int 0, .int 0, .int 0, .int 0, .ref (r 21), .ref (r 22), .int 0, .ref (r 23), .int 0]))] H := hP
  have hD : va_D A [(h0, .inr (12, [.int 0, .int 0, .int 0, .int 0, .int 0, .int 0, .int 0, .int 0, .ref (r 0), .ref (r 1), .int 0, .ref (r 2), .ref (r 3), .ref (r 4), .ref (r 5), .ref (r 6), .ref (r 7), .int 0, .ref (r 8), .ref (r 9), .ref (r 10), .ref (r 11), .ref (r 12), .int (nI 228), .int 1, .ref (r 13), .int 0, .int 0, .int (-1), .int 0, .int 0, .int 0, .int 0, .int 0, .ref (r 14), .ref (r 15), .ref (r 16), .int 0, .ref (r 17), .ref (r 18), .ref (r 19), .int 0, .int (-1), .int (-1), .int (-1), .int (-1), .ref (r 20), .int 0, .int 0, .int 0, .int 0, .int 0, .ref (r 21), .ref (r 22), .int 0, .ref (r 23), .int 0]))] := hD
  refine lv_aload_n hx hb dX12_almanac_25 rfl (lv_at hl 0 rfl) ?_
  refine lv_iconst (v := 0) hx hb dX12_almanac_26 (by decide) ?_
  refine va_put (D := (dC, dI)) (ci := 12) (v := .int 0) (ty := .boolean) (C := RX12) (T := TX12) (N := 57) hx hb hts (fun w h => List.mem_cons_of_mem _ (jnGB_X12 w h)) tyX12 tyX12_ok nmX12 hown hK hP hD hS 0 rfl rfl 4 (by decide) (hts _ (List.mem_cons_of_mem _ mGB_20)) (fun _ h9 => h9) rfl (by decide +kernel) rfl rfl (Nat.le_of_ble_eq_true rfl) dX12_almanac_27 (fun H locs hP hD hS => ?_)
  have hP : va_P (dC, dI) vwCl [(h0, .inr (12, [.int 0, .int 0, .int 0, .int 0, .int 0, .int 0, .int 0, .int 0, .ref (r 0), .ref (r 1), .int 0, .ref (r 2), .ref (r 3), .ref (r 4), .ref (r 5), .ref (r 6), .ref (r 7), .int 0, .ref (r 8), .ref (r 9), .ref (r 10), .ref (r 11), .ref (r 12), .int (nI 228), .int 1, .ref (r 13), .int 0, .int 0, .int (-1), .int 0, .int 0, .int 0, .int 0, .int 0, .ref (r 14), .ref (r 15), .ref (r 16), .int 0, .ref (r 17), .ref (r 18), .ref (r 19), .int 0, .int (-1), .int (-1), .int (-1), .int (-1), .ref (r 20), .int 0, .int 0, .int 0, .int 0, .int 0, .ref (r 21), .ref (r 22), .int 0, .ref (r 23), .int 0]))] H := hP
  have hD : va_D A [(h0, .inr (12, [.int 0, .int 0, .int 0, .int 0, .int 0, .int 0, .int 0, .int 0, .ref (r 0), .ref (r 1), .int 0, .ref (r 2), .ref (r 3), .ref (r 4), .ref (r 5), .ref (r 6), .ref (r 7), .int 0, .ref (r 8), .ref (r 9), .ref (r 10), .ref (r 11), .ref (r 12), .int (nI 228), .int 1, .ref (r 13), .int 0, .int 0, .int (-1), .int 0, .int 0, .int 0, .int 0, .int 0, .ref (r 14), .ref (r 15), .ref (r 16), .int 0, .ref (r 17), .ref (r 18), .ref (r 19), .int 0, .int (-1), .int (-1), .int (-1), .int (-1), .ref (r 20), .int 0, .int 0, .int 0, .int 0, .int 0, .ref (r 21), .ref (r 22), .int 0, .ref (r 23), .int 0]))] := hD
  refine lv_aload_n hx hb dX12_almanac_30 rfl (lv_at hl 0 rfl) ?_
  refine lv_iconst (v := 0) hx hb dX12_almanac_31 (by decide) ?_
  refine va_put (D := (dC, dI)) (ci := 12) (v := .int 0) (ty := .int) (C := RX12) (T := TX12) (N := 57) hx hb hts (fun w h => List.mem_cons_of_mem _ (jnGB_X12 w h)) tyX12 tyX12_ok nmX12 hown hK hP hD hS 0 rfl rfl 5 (by decide) (hts _ (List.mem_cons_of_mem _ mGB_32)) (fun _ h9 => h9) rfl (by decide +kernel) rfl rfl (Nat.le_of_ble_eq_true rfl) dX12_almanac_32 (fun H locs hP hD hS => ?_)
  have hP : va_P (dC, dI) vwCl [(h0, .inr (12, [.int 0, .int 0, .int 0, .int 0, .int 0, .int 0, .int 0, .int 0, .ref (r 0), .ref (r 1), .int 0, .ref (r 2), .ref (r 3), .ref (r 4), .ref (r 5), .ref (r 6), .ref (r 7), .int 0, .ref (r 8), .ref (r 9), .ref (r 10), .ref (r 11), .ref (r 12), .int (nI 228), .int 1, .ref (r 13), .int 0, .int 0, .int (-1), .int 0, .int 0, .int 0, .int 0, .int 0, .ref (r 14), .ref (r 15), .ref (r 16), .int 0, .ref (r 17), .ref (r 18), .ref (r 19), .int 0, .int (-1), .int (-1), .int (-1), .int (-1), .ref (r 20), .int 0, .int 0, .int 0, .int 0, .int 0, .ref (r 21), .ref (r 22), .int 0, .ref (r 23), .int 0]))] H := hP
  have hD : va_D A [(h0, .inr (12, [.int 0, .int 0, .int 0, .int 0, .int 0, .int 0, .int 0, .int 0, .ref (r 0), .ref (r 1), .int 0, .ref (r 2), .ref (r 3), .ref (r 4), .ref (r 5), .ref (r 6), .ref (r 7), .int 0, .ref (r 8), .ref (r 9), .ref (r 10), .ref (r 11), .ref (r 12), .int (nI 228), .int 1, .ref (r 13), .int 0, .int 0, .int (-1), .int 0, .int 0, .int 0, .int 0, .int 0, .ref (r 14), .ref (r 15), .ref (r 16), .int 0, .ref (r 17), .ref (r 18), .ref (r 19), .int 0, .int (-1), .int (-1), .int (-1), .int (-1), .ref (r 20), .int 0, .int 0, .int 0, .int 0, .int 0, .ref (r 21), .ref (r 22), .int 0, .ref (r 23), .int 0]))] := hD
  refine lv_aload_n hx hb dX12_almanac_35 rfl (lv_at hl 0 rfl) ?_
  refine lv_iconst (v := 0) hx hb dX12_almanac_36 (by decide) ?_
  refine va_put (D := (dC, dI)) (ci := 12) (v := .int 0) (ty := .int) (C := RX12) (T := TX12) (N := 57) hx hb hts (fun w h => List.mem_cons_of_mem _ (jnGB_X12 w h)) tyX12 tyX12_ok nmX12 hown hK hP hD hS 0 rfl rfl 6 (by decide) (hts _ (List.mem_cons_of_mem _ mGB_33)) (fun _ h9 => h9) rfl (by decide +kernel) rfl rfl (Nat.le_of_ble_eq_true rfl) dX12_almanac_37 (fun H locs hP hD hS => ?_)
  have hP : va_P (dC, dI) vwCl [(h0, .inr (12, [.int 0, .int 0, .int 0, .int 0, .int 0, .int 0, .int 0, .int 0, .ref (r 0), .ref (r 1), .int 0, .ref (r 2), .ref (r 3), .ref (r 4), .ref (r 5), .ref (r 6), .ref (r 7), .int 0, .ref (r 8), .ref (r 9), .ref (r 10), .ref (r 11), .ref (r 12), .int (nI 228), .int 1, .ref (r 13), .int 0, .int 0, .int (-1), .int 0, .int 0, .int 0, .int 0, .int 0, .ref (r 14), .ref (r 15), .ref (r 16), .int 0, .ref (r 17), .ref (r 18), .ref (r 19), .int 0, .int (-1), .int (-1), .int (-1), .int (-1), .ref (r 20), .int 0, .int 0, .int 0, .int 0, .int 0, .ref (r 21), .ref (r 22), .int 0, .ref (r 23), .int 0]))] H := hP
  have hD : va_D A [(h0, .inr (12, [.int 0, .int 0, .int 0, .int 0, .int 0, .int 0, .int 0, .int 0, .ref (r 0), .ref (r 1), .int 0, .ref (r 2), .ref (r 3), .ref (r 4), .ref (r 5), .ref (r 6), .ref (r 7), .int 0, .ref (r 8), .ref (r 9), .ref (r 10), .ref (r 11), .ref (r 12), .int (nI 228), .int 1, .ref (r 13), .int 0, .int 0, .int (-1), .int 0, .int 0, .int 0, .int 0, .int 0, .ref (r 14), .ref (r 15), .ref (r 16), .int 0, .ref (r 17), .ref (r 18), .ref (r 19), .int 0, .int (-1), .int (-1), .int (-1), .int (-1), .ref (r 20), .int 0, .int 0, .int 0, .int 0, .int 0, .ref (r 21), .ref (r 22), .int 0, .ref (r 23), .int 0]))] := hD
  refine lv_aload_n hx hb dX12_almanac_40 rfl (lv_at hl 0 rfl) ?_
  refine lv_iconst (v := 0) hx hb dX12_almanac_41 (by decide) ?_
  refine va_put (D := (dC, dI)) (ci := 12) (v := .int 0) (ty := .int) (C := RX12) (T := TX12) (N := 57) hx hb hts (fun w h => List.mem_cons_of_mem _ (jnGB_X12 w h)) tyX12 tyX12_ok nmX12 hown hK hP hD hS 0 rfl rfl 7 (by decide) (hts _ (List.mem_cons_of_mem _ mGB_1)) (fun _ h9 => h9) rfl (by decide +kernel) rfl rfl (Nat.le_of_ble_eq_true rfl) dX12_almanac_42 (fun H locs hP hD hS => ?_)
  have hP : va_P (dC, dI) vwCl [(h0, .inr (12, [.int 0, .int 0, .int 0, .int 0, .int 0, .int 0, .int 0, .int 0, .ref (r 0), .ref (r 1), .int 0, .ref (r 2), .ref (r 3), .ref (r 4), .ref (r 5), .ref (r 6), .ref (r 7), .int 0, .ref (r 8), .ref (r 9), .ref (r 10), .ref (r 11), .ref (r 12), .int (nI 228), .int 1, .ref (r 13), .int 0, .int 0, .int (-1), .int 0, .int 0, .int 0, .int 0, .int 0, .ref (r 14), .ref (r 15), .ref (r 16), .int 0, .ref (r 17), .ref (r 18), .ref (r 19), .int 0, .int (-1), .int (-1), .int (-1), .int (-1), .ref (r 20), .int 0, .int 0, .int 0, .int 0, .int 0, .ref (r 21), .ref (r 22), .int 0, .ref (r 23), .int 0]))] H := hP
  have hD : va_D A [(h0, .inr (12, [.int 0, .int 0, .int 0, .int 0, .int 0, .int 0, .int 0, .int 0, .ref (r 0), .ref (r 1), .int 0, .ref (r 2), .ref (r 3), .ref (r 4), .ref (r 5), .ref (r 6), .ref (r 7), .int 0, .ref (r 8), .ref (r 9), .ref (r 10), .ref (r 11), .ref (r 12), .int (nI 228), .int 1, .ref (r 13), .int 0, .int 0, .int (-1), .int 0, .int 0, .int 0, .int 0, .int 0, .ref (r 14), .ref (r 15), .ref (r 16), .int 0, .ref (r 17), .ref (r 18), .ref (r 19), .int 0, .int (-1), .int (-1), .int (-1), .int (-1), .ref (r 20), .int 0, .int 0, .int 0, .int 0, .int 0, .ref (r 21), .ref (r 22), .int 0, .ref (r 23), .int 0]))] := hD
  refine lv_aload_n hx hb dX12_almanac_45 rfl (lv_at hl 0 rfl) ?_
  refine lv_iconst (v := 0) hx hb dX12_almanac_46 (by decide) ?_
  refine va_put (D := (dC, dI)) (ci := 12) (v := .int 0) (ty := .int) (C := RX12) (T := TX12) (N := 57) hx hb hts (fun w h => List.mem_cons_of_mem _ (jnGB_X12 w h)) tyX12 tyX12_ok nmX12 hown hK hP hD hS 0 rfl rfl 10 (by decide) (hts _ (List.mem_cons_of_mem _ mGB_6)) (fun _ h9 => h9) rfl (by decide +kernel) rfl rfl (Nat.le_of_ble_eq_true rfl) dX12_almanac_47 (fun H locs hP hD hS => ?_)
  have hP : va_P (dC, dI) vwCl [(h0, .inr (12, [.int 0, .int 0, .int 0, .int 0, .int 0, .int 0, .int 0, .int 0, .ref (r 0), .ref (r 1), .int 0, .ref (r 2), .ref (r 3), .ref (r 4), .ref (r 5), .ref (r 6), .ref (r 7), .int 0, .ref (r 8), .ref (r 9), .ref (r 10), .ref (r 11), .ref (r 12), .int (nI 228), .int 1, .ref (r 13), .int 0, .int 0, .int (-1), .int 0, .int 0, .int 0, .int 0, .int 0, .ref (r 14), .ref (r 15), .ref (r 16), .int 0, .ref (r 17), .ref (r 18), .ref (r 19), .int 0, .int (-1), .int (-1), .int (-1), .int (-1), .ref (r 20), .int 0, .int 0, .int 0, .int 0, .int 0, .ref (r 21), .ref (r 22), .int 0, .ref (r 23), .int 0]))] H := hP
  have hD : va_D A [(h0, .inr (12, [.int 0, .int 0, .int 0, .int 0, .int 0, .int 0, .int 0, .int 0, .ref (r 0), .ref (r 1), .int 0, .ref (r 2), .ref (r 3), .ref (r 4), .ref (r 5), .ref (r 6), .ref (r 7), .int 0, .ref (r 8), .ref (r 9), .ref (r 10), .ref (r 11), .ref (r 12), .int (nI 228), .int 1, .ref (r 13), .int 0, .int 0, .int (-1), .int 0, .int 0, .int 0, .int 0, .int 0, .ref (r 14), .ref (r 15), .ref (r 16), .int 0, .ref (r 17), .ref (r 18), .ref (r 19), .int 0, .int (-1), .int (-1), .int (-1), .int (-1), .ref (r 20), .int 0, .int 0, .int 0, .int 0, .int 0, .ref (r 21), .ref (r 22), .int 0, .ref (r 23), .int 0]))] := hD
  refine lv_aload_n hx hb dX12_almanac_50 rfl (lv_at hl 0 rfl) ?_
  refine lv_iconst (v := 0) hx hb dX12_almanac_51 (by decide) ?_
  refine va_put (D := (dC, dI)) (ci := 12) (v := .int 0) (ty := .int) (C := RX12) (T := TX12) (N := 57) hx hb hts (fun w h => List.mem_cons_of_mem _ (jnGB_X12 w h)) tyX12 tyX12_ok nmX12 hown hK hP hD hS 0 rfl rfl 17 (by decide) (hts _ (List.mem_cons_of_mem _ mGB_7)) (fun _ h9 => h9) rfl (by decide +kernel) rfl rfl (Nat.le_of_ble_eq_true rfl) dX12_almanac_52 (fun H locs hP hD hS => ?_)
  have hP : va_P (dC, dI) vwCl [(h0, .inr (12, [.int 0, .int 0, .int 0, .int 0, .int 0, .int 0, .int 0, .int 0, .ref (r 0), .ref (r 1), .int 0, .ref (r 2), .ref (r 3), .ref (r 4), .ref (r 5), .ref (r 6), .ref (r 7), .int 0, .ref (r 8), .ref (r 9), .ref (r 10), .ref (r 11), .ref (r 12), .int (nI 228), .int 1, .ref (r 13), .int 0, .int 0, .int (-1), .int 0, .int 0, .int 0, .int 0, .int 0, .ref (r 14), .ref (r 15), .ref (r 16), .int 0, .ref (r 17), .ref (r 18), .ref (r 19), .int 0, .int (-1), .int (-1), .int (-1), .int (-1), .ref (r 20), .int 0, .int 0, .int 0, .int 0, .int 0, .ref (r 21), .ref (r 22), .int 0, .ref (r 23), .int 0]))] H := hP
  have hD : va_D A [(h0, .inr (12, [.int 0, .int 0, .int 0, .int 0, .int 0, .int 0, .int 0, .int 0, .ref (r 0), .ref (r 1), .int 0, .ref (r 2), .ref (r 3), .ref (r 4), .ref (r 5), .ref (r 6), .ref (r 7), .int 0, .ref (r 8), .ref (r 9), .ref (r 10), .ref (r 11), .ref (r 12), .int (nI 228), .int 1, .ref (r 13), .int 0, .int 0, .int (-1), .int 0, .int 0, .int 0, .int 0, .int 0, .ref (r 14), .ref (r 15), .ref (r 16), .int 0, .ref (r 17), .ref (r 18), .ref (r 19), .int 0, .int (-1), .int (-1), .int (-1), .int (-1), .ref (r 20), .int 0, .int 0, .int 0, .int 0, .int 0, .ref (r 21), .ref (r 22), .int 0, .ref (r 23), .int 0]))] := hD
  refine lv_aload_n hx hb dX12_almanac_55 rfl (lv_at hl 0 rfl) ?_
  refine lv_iconst (v := 0) hx hb dX12_almanac_56 (by decide) ?_
  refine va_put (D := (dC, dI)) (ci := 12) (v := .int 0) (ty := .int) (C := RX12) (T := TX12) (N := 57) hx hb hts (fun w h => List.mem_cons_of_mem _ (jnGB_X12 w h)) tyX12 tyX12_ok nmX12 hown hK hP hD hS 0 rfl rfl 29 (by decide) (hts _ (List.mem_cons_of_mem _ mGB_77)) (fun _ h9 => h9) rfl (by decide +kernel) rfl rfl (Nat.le_of_ble_eq_true rfl) dX12_almanac_57 (fun H locs hP hD hS => ?_)
  have hP : va_P (dC, dI) vwCl [(h0, .inr (12, [.int 0, .int 0, .int 0, .int 0, .int 0, .int 0, .int 0, .int 0, .ref (r 0), .ref (r 1), .int 0, .ref (r 2), .ref (r 3), .ref (r 4), .ref (r 5), .ref (r 6), .ref (r 7), .int 0, .ref (r 8), .ref (r 9), .ref (r 10), .ref (r 11), .ref (r 12), .int (nI 228), .int 1, .ref (r 13), .int 0, .int 0, .int (-1), .int 0, .int 0, .int 0, .int 0, .int 0, .ref (r 14), .ref (r 15), .ref (r 16), .int 0, .ref (r 17), .ref (r 18), .ref (r 19), .int 0, .int (-1), .int (-1), .int (-1), .int (-1), .ref (r 20), .int 0, .int 0, .int 0, .int 0, .int 0, .ref (r 21), .ref (r 22), .int 0, .ref (r 23), .int 0]))] H := hP
  have hD : va_D A [(h0, .inr (12, [.int 0, .int 0, .int 0, .int 0, .int 0, .int 0, .int 0, .int 0, .ref (r 0), .ref (r 1), .int 0, .ref (r 2), .ref (r 3), .ref (r 4), .ref (r 5), .ref (r 6), .ref (r 7), .int 0, .ref (r 8), .ref (r 9), .ref (r 10), .ref (r 11), .ref (r 12), .int (nI 228), .int 1, .ref (r 13), .int 0, .int 0, .int (-1), .int 0, .int 0, .int 0, .int 0, .int 0, .ref (r 14), .ref (r 15), .ref (r 16), .int 0, .ref (r 17), .ref (r 18), .ref (r 19), .int 0, .int (-1), .int (-1), .int (-1), .int (-1), .ref (r 20), .int 0, .int 0, .int 0, .int 0, .int 0, .ref (r 21), .ref (r 22), .int 0, .ref (r 23), .int 0]))] := hD
  refine lv_aload_n hx hb dX12_almanac_60 rfl (lv_at hl 0 rfl) ?_
  refine lv_iconst (v := 0) hx hb dX12_almanac_61 (by decide) ?_
  refine va_put (D := (dC, dI)) (ci := 12) (v := .int 0) (ty := .boolean) (C := RX12) (T := TX12) (N := 57) hx hb hts (fun w h => List.mem_cons_of_mem _ (jnGB_X12 w h)) tyX12 tyX12_ok nmX12 hown hK hP hD hS 0 rfl rfl 33 (by decide) (hts _ (List.mem_cons_of_mem _ mGB_89)) (fun _ h9 => h9) rfl (by decide +kernel) rfl rfl (Nat.le_of_ble_eq_true rfl) dX12_almanac_62 (fun H locs hP hD hS => ?_)
  have hP : va_P (dC, dI) vwCl [(h0, .inr (12, [.int 0, .int 0, .int 0, .int 0, .int 0, .int 0, .int 0, .int 0, .ref (r 0), .ref (r 1), .int 0, .ref (r 2), .ref (r 3), .ref (r 4), .ref (r 5), .ref (r 6), .ref (r 7), .int 0, .ref (r 8), .ref (r 9), .ref (r 10), .ref (r 11), .ref (r 12), .int (nI 228), .int 1, .ref (r 13), .int 0, .int 0, .int (-1), .int 0, .int 0, .int 0, .int 0, .int 0, .ref (r 14), .ref (r 15), .ref (r 16), .int 0, .ref (r 17), .ref (r 18), .ref (r 19), .int 0, .int (-1), .int (-1), .int (-1), .int (-1), .ref (r 20), .int 0, .int 0, .int 0, .int 0, .int 0, .ref (r 21), .ref (r 22), .int 0, .ref (r 23), .int 0]))] H := hP
  have hD : va_D A [(h0, .inr (12, [.int 0, .int 0, .int 0, .int 0, .int 0, .int 0, .int 0, .int 0, .ref (r 0), .ref (r 1), .int 0, .ref (r 2), .ref (r 3), .ref (r 4), .ref (r 5), .ref (r 6), .ref (r 7), .int 0, .ref (r 8), .ref (r 9), .ref (r 10), .ref (r 11), .ref (r 12), .int (nI 228), .int 1, .ref (r 13), .int 0, .int 0, .int (-1), .int 0, .int 0, .int 0, .int 0, .int 0, .ref (r 14), .ref (r 15), .ref (r 16), .int 0, .ref (r 17), .ref (r 18), .ref (r 19), .int 0, .int (-1), .int (-1), .int (-1), .int (-1), .ref (r 20), .int 0, .int 0, .int 0, .int 0, .int 0, .ref (r 21), .ref (r 22), .int 0, .ref (r 23), .int 0]))] := hD
  refine lv_aload_n hx hb dX12_almanac_65 rfl (lv_at hl 0 rfl) ?_
  refine lv_iconst (v := 0) hx hb dX12_almanac_66 (by decide) ?_
  refine va_put (D := (dC, dI)) (ci := 12) (v := .int 0) (ty := .int) (C := RX12) (T := TX12) (N := 57) hx hb hts (fun w h => List.mem_cons_of_mem _ (jnGB_X12 w h)) tyX12 tyX12_ok nmX12 hown hK hP hD hS 0 rfl rfl 27 (by decide) (hts _ (List.mem_cons_of_mem _ mGB_26)) (fun _ h9 => h9) rfl (by decide +kernel) rfl rfl (Nat.le_of_ble_eq_true rfl) dX12_almanac_67 (fun H locs hP hD hS => ?_)
  have hP : va_P (dC, dI) vwCl [(h0, .inr (12, [.int 0, .int 0, .int 0, .int 0, .int 0, .int 0, .int 0, .int 0, .ref (r 0), .ref (r 1), .int 0, .ref (r 2), .ref (r 3), .ref (r 4), .ref (r 5), .ref (r 6), .ref (r 7), .int 0, .ref (r 8), .ref (r 9), .ref (r 10), .ref (r 11), .ref (r 12), .int (nI 228), .int 1, .ref (r 13), .int 0, .int 0, .int (-1), .int 0, .int 0, .int 0, .int 0, .int 0, .ref (r 14), .ref (r 15), .ref (r 16), .int 0, .ref (r 17), .ref (r 18), .ref (r 19), .int 0, .int (-1), .int (-1), .int (-1), .int (-1), .ref (r 20), .int 0, .int 0, .int 0, .int 0, .int 0, .ref (r 21), .ref (r 22), .int 0, .ref (r 23), .int 0]))] H := hP
  have hD : va_D A [(h0, .inr (12, [.int 0, .int 0, .int 0, .int 0, .int 0, .int 0, .int 0, .int 0, .ref (r 0), .ref (r 1), .int 0, .ref (r 2), .ref (r 3), .ref (r 4), .ref (r 5), .ref (r 6), .ref (r 7), .int 0, .ref (r 8), .ref (r 9), .ref (r 10), .ref (r 11), .ref (r 12), .int (nI 228), .int 1, .ref (r 13), .int 0, .int 0, .int (-1), .int 0, .int 0, .int 0, .int 0, .int 0, .ref (r 14), .ref (r 15), .ref (r 16), .int 0, .ref (r 17), .ref (r 18), .ref (r 19), .int 0, .int (-1), .int (-1), .int (-1), .int (-1), .ref (r 20), .int 0, .int 0, .int 0, .int 0, .int 0, .ref (r 21), .ref (r 22), .int 0, .ref (r 23), .int 0]))] := hD
  refine lv_aload_n hx hb dX12_almanac_70 rfl (lv_at hl 0 rfl) ?_
  refine lv_iconst (v := (-1)) hx hb dX12_almanac_71 (by decide) ?_
  refine va_put (D := (dC, dI)) (ci := 12) (v := .int (-1)) (ty := .int) (C := RX12) (T := TX12) (N := 57) hx hb hts (fun w h => List.mem_cons_of_mem _ (jnGB_X12 w h)) tyX12 tyX12_ok nmX12 hown hK hP hD hS 0 rfl rfl 28 (by decide) (hts _ (List.mem_cons_of_mem _ mGB_25)) (fun _ h9 => h9) rfl (by decide +kernel) rfl rfl (Nat.le_of_ble_eq_true rfl) dX12_almanac_72 (fun H locs hP hD hS => ?_)
  have hP : va_P (dC, dI) vwCl [(h0, .inr (12, [.int 0, .int 0, .int 0, .int 0, .int 0, .int 0, .int 0, .int 0, .ref (r 0), .ref (r 1), .int 0, .ref (r 2), .ref (r 3), .ref (r 4), .ref (r 5), .ref (r 6), .ref (r 7), .int 0, .ref (r 8), .ref (r 9), .ref (r 10), .ref (r 11), .ref (r 12), .int (nI 228), .int 1, .ref (r 13), .int 0, .int 0, .int (-1), .int 0, .int 0, .int 0, .int 0, .int 0, .ref (r 14), .ref (r 15), .ref (r 16), .int 0, .ref (r 17), .ref (r 18), .ref (r 19), .int 0, .int (-1), .int (-1), .int (-1), .int (-1), .ref (r 20), .int 0, .int 0, .int 0, .int 0, .int 0, .ref (r 21), .ref (r 22), .int 0, .ref (r 23), .int 0]))] H := hP
  have hD : va_D A [(h0, .inr (12, [.int 0, .int 0, .int 0, .int 0, .int 0, .int 0, .int 0, .int 0, .ref (r 0), .ref (r 1), .int 0, .ref (r 2), .ref (r 3), .ref (r 4), .ref (r 5), .ref (r 6), .ref (r 7), .int 0, .ref (r 8), .ref (r 9), .ref (r 10), .ref (r 11), .ref (r 12), .int (nI 228), .int 1, .ref (r 13), .int 0, .int 0, .int (-1), .int 0, .int 0, .int 0, .int 0, .int 0, .ref (r 14), .ref (r 15), .ref (r 16), .int 0, .ref (r 17), .ref (r 18), .ref (r 19), .int 0, .int (-1), .int (-1), .int (-1), .int (-1), .ref (r 20), .int 0, .int 0, .int 0, .int 0, .int 0, .ref (r 21), .ref (r 22), .int 0, .ref (r 23), .int 0]))] := hD
  refine lv_aload_n hx hb dX12_almanac_75 rfl (lv_at hl 0 rfl) ?_
  have hPc := hP.sub (ws' := [(h0, .inr (12, [.int 0, .int 0, .int 0, .int 0, .int 0, .int 0, .int 0, .int 0, .ref (r 0), .ref (r 1), .int 0, .ref (r 2), .ref (r 3), .ref (r 4), .ref (r 5), .ref (r 6), .ref (r 7), .int 0, .ref (r 8), .ref (r 9), .ref (r 10), .ref (r 11), .ref (r 12), .int (nI 228), .int 1, .ref (r 13), .int 0, .int 0, .int (-1), .int 0, .int 0, .int 0, .int 0, .int 0, .ref (r 14), .ref (r 15), .ref (r 16), .int 0, .ref (r 17), .ref (r 18), .ref (r 19), .int 0, .int (-1), .int (-1), .int (-1), .int (-1), .ref (r 20), .int 0, .int 0, .int 0, .int 0, .int 0, .ref (r 21), .ref (r 22), .int 0, .ref (r 23), .int 0]))]) [0] rfl
  have hDc := hD.sub (ws' := [(h0, .inr (12, [.int 0, .int 0, .int 0, .int 0, .int 0, .int 0, .int 0, .int 0, .ref (r 0), .ref (r 1), .int 0, .ref (r 2), .ref (r 3), .ref (r 4), .ref (r 5), .ref (r 6), .ref (r 7), .int 0, .ref (r 8), .ref (r 9), .ref (r 10), .ref (r 11), .ref (r 12), .int (nI 228), .int 1, .ref (r 13), .int 0, .int 0, .int (-1), .int 0, .int 0, .int 0, .int 0, .int 0, .ref (r 14), .ref (r 15), .ref (r 16), .int 0, .ref (r 17), .ref (r 18), .ref (r 19), .int 0, .int (-1), .int (-1), .int (-1), .int (-1), .ref (r 20), .int 0, .int 0, .int 0, .int 0, .int 0, .ref (r 21), .ref (r 22), .int 0, .ref (r 23), .int 0]))]) [0] (by decide) rfl
  have hKc := hK.sub (tys' := []) [] rfl
  have hFc := va_free (wc := [(h0, .inr (12, [.int 0, .int 0, .int 0, .int 0, .int 0, .int 0, .int 0, .int 0, .ref (r 0), .ref (r 1), .int 0, .ref (r 2), .ref (r 3), .ref (r 4), .ref (r 5), .ref (r 6), .ref (r 7), .int 0, .ref (r 8), .ref (r 9), .ref (r 10), .ref (r 11), .ref (r 12), .int (nI 228), .int 1, .ref (r 13), .int 0, .int 0, .int (-1), .int 0, .int 0, .int 0, .int 0, .int 0, .ref (r 14), .ref (r 15), .ref (r 16), .int 0, .ref (r 17), .ref (r 18), .ref (r 19), .int 0, .int (-1), .int (-1), .int (-1), .int (-1), .ref (r 20), .int 0, .int 0, .int 0, .int 0, .int 0, .ref (r 21), .ref (r 22), .int 0, .ref (r 23), .int 0]))]) hD hS hA [0] rfl
  refine va_callv (va_runV (As := []) (rest := []) ⟨hx, hb, hml, hown, hts⟩ (fX12_next l dC dI H.size h0 r (nI 228) 1) (cwV 0 hts (gz_gV mGB_91 mGB_92 mGB_93 mGB_5 mGB_90 goodGB) rfl rfl rfl (by decide +kernel) ⟨Nat.le_of_ble_eq_true rfl, Nat.le_of_ble_eq_true rfl⟩) ⟨fun a U g mk q => by obtain ⟨q0, q1, qP, qK, qD⟩ := q; exact ⟨q0, q1, qP, va_K.moved (u := U) (U := U.calling g mk a) (Vm.Alike.refl U.vm) qK, qD⟩, va_recv hKc hPc (ci := 12) (q0 := 0) rfl rfl, fun U hU hW => ⟨rfl, by rw [hU], by rw [hU]; exact hPc, va_K.moved hW.alike hKc, hDc.weaken (fun _ _ _ _ => trivial)⟩⟩ rfl rfl hl.1 rfl (lv_room (Nat.le_of_ble_eq_true rfl)) dX12_almanac_76 ⟨Nat.le_of_ble_eq_true rfl, Nat.le_of_ble_eq_true rfl⟩) hS (fun q _ h => hFc q h) hFc (fun  u t H1 locs ht hvm hw hB hz1 hk1 hS => ?_)
  obtain ⟨hP1, hK1, hD1⟩ := hB
  rw [ht] at hP1
  have hK1 := va_K.moved hvm.symm hK1
  obtain ⟨hP, hD⟩ := va_join (wr := []) (w1 := [(h0, .inr (12, fsMk r (nI 228) 1))]) hP hD [0] [] rfl rfl (by decide) (by decide) hk1 hFc hP1 hD1
  generalize H1 = H at hP hS ⊢
  have hP : va_P (dC, dI) vwCl [(h0, .inr (12, fsMk r (nI 228) 1))] H := hP
  have hD : va_D A [(h0, .inr (12, fsMk r (nI 228) 1))] := hD
  refine lv_aload_n hx hb dX12_almanac_79 rfl (lv_at hl 0 rfl) ?_
  refine va_get (D := (dC, dI)) (ci := 12) (v := .int 0) (C := RX12) (T := TX12) (N := 57) hx hb hts (fun w h => List.mem_cons_of_mem _ (jnGB_X12 w h)) hown hK hP 0 rfl rfl 33 (by decide) (hts _ (List.mem_cons_of_mem _ mGB_89)) (fun _ h9 => h9) rfl dX12_almanac_80 ?_
  refine lv_if_ne (tgt := 100) hx hb dX12_almanac_83 (by decide) (fun c_3 => absurd (by decide) c_3) (fun c_3 => ?_)
  refine lv_aload_n hx hb dX12_almanac_86 rfl (lv_at hl 0 rfl) ?_
  refine va_get (D := (dC, dI)) (ci := 12) (v := .int 0) (C := RX12) (T := TX12) (N := 57) hx hb hts (fun w h => List.mem_cons_of_mem _ (jnGB_X12 w h)) hown hK hP 0 rfl rfl 31 (by decide) (hts _ (List.mem_cons_of_mem _ mGB_84)) (fun _ h9 => h9) rfl dX12_almanac_87 ?_
  refine lv_if_eq (tgt := 100) hx hb dX12_almanac_90 (by decide) (fun c_4 => ?_) (fun c_4 => absurd (by decide) c_4)
  refine lv_aload_n hx hb dX12_almanac_100 rfl (lv_at hl 0 rfl) ?_
  refine lv_iconst (v := 0) hx hb dX12_almanac_101 (by decide) ?_
  refine va_put (D := (dC, dI)) (ci := 12) (v := .int 0) (ty := .int) (C := RX12) (T := TX12) (N := 57) hx hb hts (fun w h => List.mem_cons_of_mem _ (jnGB_X12 w h)) tyX12 tyX12_ok nmX12 hown hK hP hD hS 0 rfl rfl 26 (by decide) (hts _ (List.mem_cons_of_mem _ mGB_30)) (fun _ h9 => h9) rfl (by decide +kernel) rfl rfl (Nat.le_of_ble_eq_true rfl) dX12_almanac_102 (fun H locs hP hD hS => ?_)
  have hP : va_P (dC, dI) vwCl [(h0, .inr (12, [.int 0, .int 0, .int 0, .int 0, .int 0, .int 0, .int 0, .int 0, .ref (r 0), .ref (r 1), .int 0, .ref (r 2), .ref (r 3), .ref (r 4), .ref (r 5), .ref (r 6), .ref (r 7), .int 0, .ref (r 8), .ref (r 9), .ref (r 10), .ref (r 11), .ref (r 12), .int (nI 228), .int 1, .ref (r 13), .int 0, .int 0, .int (-1), .int 0, .int 0, .int 0, .int 0, .int 0, .ref (r 14), .ref (r 15), .ref (r 16), .int 0, .ref (r 17), .ref (r 18), .ref (r 19), .int 0, .int (-1), .int (-1), .int (-1), .int (-1), .ref (r 20), .int 0, .int 0, .int 0, .int 0, .int 0, .ref (r 21), .ref (r 22), .int 0, .ref (r 23), .int 0]))] H := hP
  have hD : va_D A [(h0, .inr (12, [.int 0, .int 0, .int 0, .int 0, .int 0, .int 0, .int 0, .int 0, .ref (r 0), .ref (r 1), .int 0, .ref (r 2), .ref (r 3), .ref (r 4), .ref (r 5), .ref (r 6), .ref (r 7), .int 0, .ref (r 8), .ref (r 9), .ref (r 10), .ref (r 11), .ref (r 12), .int (nI 228), .int 1, .ref (r 13), .int 0, .int 0, .int (-1), .int 0, .int 0, .int 0, .int 0, .int 0, .ref (r 14), .ref (r 15), .ref (r 16), .int 0, .ref (r 17), .ref (r 18), .ref (r 19), .int 0, .int (-1), .int (-1), .int (-1), .int (-1), .ref (r 20), .int 0, .int 0, .int 0, .int 0, .int 0, .ref (r 21), .ref (r 22), .int 0, .ref (r 23), .int 0]))] := hD
  refine lv_aload_n hx hb dX12_almanac_105 rfl (lv_at hl 0 rfl) ?_
  refine va_get (D := (dC, dI)) (ci := 12) (v := .int 0) (C := RX12) (T := TX12) (N := 57) hx hb hts (fun w h => List.mem_cons_of_mem _ (jnGB_X12 w h)) hown hK hP 0 rfl rfl 33 (by decide) (hts _ (List.mem_cons_of_mem _ mGB_89)) (fun _ h9 => h9) rfl dX12_almanac_106 ?_
  refine lv_if_eq (tgt := 120) hx hb dX12_almanac_109 (by decide) (fun c_5 => ?_) (fun c_5 => absurd (by decide) c_5)
  refine lv_aload_n hx hb dX12_almanac_120 rfl (lv_at hl 0 rfl) ?_
  refine va_get (D := (dC, dI)) (ci := 12) (v := .int 0) (C := RX12) (T := TX12) (N := 57) hx hb hts (fun w h => List.mem_cons_of_mem _ (jnGB_X12 w h)) hown hK hP 0 rfl rfl 3 (by decide) (hts _ (List.mem_cons_of_mem _ mGB_0)) (fun _ h9 => h9) rfl dX12_almanac_121 ?_
  refine W.widen (k := 0) (n := 0) (Nat.le_of_ble_eq_true rfl) (Nat.le_of_ble_eq_true rfl) ?_
  exact W.iret (v := 0) hx hb hr (fun t ht hW => ⟨⟨0, (), rfl, rfl, trivial⟩, hS.F ht⟩) hS.2.2 dX12_almanac_124
end
