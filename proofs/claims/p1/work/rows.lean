section
-- ===== PART A: goes FIRST, ahead of the names: the tables' words, and 'selects' of the private methods out of them =====
/-- a private method of a class that the tables say can be made, by its rows of tables_1 -/
def lw_okq (q : MethodName × Nat) : Prop := (q.1.cls ≠ "java/lang/invoke/MethodHandle" ∧ q.1.cls ≠ "java/lang/invoke/VarHandle") ∧ Cond.instantiable q.1.cls q.2 ∈ tables_1 ∧ Cond.privateMethod q.1 ∈ tables_1 ∧ Cond.instanceMethod q.1 ∈ tables_1
theorem lw_p0 : lw_okq (⟨"SightedMonths$Reader", "step", "()V"⟩, 7) := ⟨⟨by decide +kernel, by decide +kernel⟩, List.mem_of_getElem? (i := 31) (by decide +kernel), List.mem_of_getElem? (i := 446) (by decide +kernel), List.mem_of_getElem? (i := 447) (by decide +kernel)⟩
theorem lw_p1 : lw_okq (⟨"SightedMonths$Reader", "byteAt", "(I)I"⟩, 7) := ⟨⟨by decide +kernel, by decide +kernel⟩, List.mem_of_getElem? (i := 31) (by decide +kernel), List.mem_of_getElem? (i := 450) (by decide +kernel), List.mem_of_getElem? (i := 451) (by decide +kernel)⟩
theorem lw_p2 : lw_okq (⟨"SightedMonths$Reader", "readLine", "()V"⟩, 7) := ⟨⟨by decide +kernel, by decide +kernel⟩, List.mem_of_getElem? (i := 31) (by decide +kernel), List.mem_of_getElem? (i := 463) (by decide +kernel), List.mem_of_getElem? (i := 464) (by decide +kernel)⟩
theorem lw_p3 : lw_okq (⟨"SightedMonths$Reader", "readFirst", "()V"⟩, 7) := ⟨⟨by decide +kernel, by decide +kernel⟩, List.mem_of_getElem? (i := 31) (by decide +kernel), List.mem_of_getElem? (i := 467) (by decide +kernel), List.mem_of_getElem? (i := 468) (by decide +kernel)⟩
theorem lw_p4 : lw_okq (⟨"SightedMonths$Reader", "passWord", "(Ljava/lang/String;)V"⟩, 7) := ⟨⟨by decide +kernel, by decide +kernel⟩, List.mem_of_getElem? (i := 31) (by decide +kernel), List.mem_of_getElem? (i := 472) (by decide +kernel), List.mem_of_getElem? (i := 473) (by decide +kernel)⟩
theorem lw_p5 : lw_okq (⟨"SightedMonths$Reader", "isWord", "(Ljava/lang/String;)Z"⟩, 7) := ⟨⟨by decide +kernel, by decide +kernel⟩, List.mem_of_getElem? (i := 31) (by decide +kernel), List.mem_of_getElem? (i := 476) (by decide +kernel), List.mem_of_getElem? (i := 477) (by decide +kernel)⟩
theorem lw_p6 : lw_okq (⟨"SightedMonths$Reader", "expect", "(ZI)V"⟩, 7) := ⟨⟨by decide +kernel, by decide +kernel⟩, List.mem_of_getElem? (i := 31) (by decide +kernel), List.mem_of_getElem? (i := 528) (by decide +kernel), List.mem_of_getElem? (i := 529) (by decide +kernel)⟩
theorem lw_p7 : lw_okq (⟨"SightedMonths$Reader", "blame", "(II)V"⟩, 7) := ⟨⟨by decide +kernel, by decide +kernel⟩, List.mem_of_getElem? (i := 31) (by decide +kernel), List.mem_of_getElem? (i := 532) (by decide +kernel), List.mem_of_getElem? (i := 533) (by decide +kernel)⟩
theorem lw_p8 : lw_okq (⟨"SightedMonths$Reader", "passNumber", "(II)I"⟩, 7) := ⟨⟨by decide +kernel, by decide +kernel⟩, List.mem_of_getElem? (i := 31) (by decide +kernel), List.mem_of_getElem? (i := 537) (by decide +kernel), List.mem_of_getElem? (i := 538) (by decide +kernel)⟩
theorem lw_p9 : lw_okq (⟨"SightedMonths$Reader", "valueHere", "()I"⟩, 7) := ⟨⟨by decide +kernel, by decide +kernel⟩, List.mem_of_getElem? (i := 31) (by decide +kernel), List.mem_of_getElem? (i := 541) (by decide +kernel), List.mem_of_getElem? (i := 542) (by decide +kernel)⟩
theorem lw_p10 : lw_okq (⟨"SightedMonths$Reader", "readMoon", "()V"⟩, 7) := ⟨⟨by decide +kernel, by decide +kernel⟩, List.mem_of_getElem? (i := 31) (by decide +kernel), List.mem_of_getElem? (i := 552) (by decide +kernel), List.mem_of_getElem? (i := 553) (by decide +kernel)⟩
theorem lw_p11 : lw_okq (⟨"SightedMonths$Reader", "passHead", "(Z)V"⟩, 7) := ⟨⟨by decide +kernel, by decide +kernel⟩, List.mem_of_getElem? (i := 31) (by decide +kernel), List.mem_of_getElem? (i := 556) (by decide +kernel), List.mem_of_getElem? (i := 557) (by decide +kernel)⟩
theorem lw_p12 : lw_okq (⟨"SightedMonths$Reader", "readPlace", "()V"⟩, 7) := ⟨⟨by decide +kernel, by decide +kernel⟩, List.mem_of_getElem? (i := 31) (by decide +kernel), List.mem_of_getElem? (i := 567) (by decide +kernel), List.mem_of_getElem? (i := 568) (by decide +kernel)⟩
theorem lw_p13 : lw_okq (⟨"SightedMonths$Reader", "passName", "(Z)I"⟩, 7) := ⟨⟨by decide +kernel, by decide +kernel⟩, List.mem_of_getElem? (i := 31) (by decide +kernel), List.mem_of_getElem? (i := 571) (by decide +kernel), List.mem_of_getElem? (i := 572) (by decide +kernel)⟩
theorem lw_p14 : lw_okq (⟨"SightedMonths$Reader", "nameHere", "()I"⟩, 7) := ⟨⟨by decide +kernel, by decide +kernel⟩, List.mem_of_getElem? (i := 31) (by decide +kernel), List.mem_of_getElem? (i := 575) (by decide +kernel), List.mem_of_getElem? (i := 576) (by decide +kernel)⟩
theorem lw_p15 : lw_okq (⟨"SightedMonths$Reader", "readReport", "(I)V"⟩, 7) := ⟨⟨by decide +kernel, by decide +kernel⟩, List.mem_of_getElem? (i := 31) (by decide +kernel), List.mem_of_getElem? (i := 589) (by decide +kernel), List.mem_of_getElem? (i := 590) (by decide +kernel)⟩
def lw_privs_1 : List (MethodName × Nat) := [(⟨"SightedMonths$Reader", "step", "()V"⟩, 7), (⟨"SightedMonths$Reader", "byteAt", "(I)I"⟩, 7), (⟨"SightedMonths$Reader", "readLine", "()V"⟩, 7), (⟨"SightedMonths$Reader", "readFirst", "()V"⟩, 7), (⟨"SightedMonths$Reader", "passWord", "(Ljava/lang/String;)V"⟩, 7), (⟨"SightedMonths$Reader", "isWord", "(Ljava/lang/String;)Z"⟩, 7), (⟨"SightedMonths$Reader", "expect", "(ZI)V"⟩, 7), (⟨"SightedMonths$Reader", "blame", "(II)V"⟩, 7), (⟨"SightedMonths$Reader", "passNumber", "(II)I"⟩, 7), (⟨"SightedMonths$Reader", "valueHere", "()I"⟩, 7), (⟨"SightedMonths$Reader", "readMoon", "()V"⟩, 7), (⟨"SightedMonths$Reader", "passHead", "(Z)V"⟩, 7), (⟨"SightedMonths$Reader", "readPlace", "()V"⟩, 7), (⟨"SightedMonths$Reader", "passName", "(Z)I"⟩, 7), (⟨"SightedMonths$Reader", "nameHere", "()I"⟩, 7), (⟨"SightedMonths$Reader", "readReport", "(I)V"⟩, 7)]
theorem lw_r1 : ∀ q ∈ lw_privs_1, lw_okq q := List.forall_mem_cons.mpr ⟨lw_p0, List.forall_mem_cons.mpr ⟨lw_p1, List.forall_mem_cons.mpr ⟨lw_p2, List.forall_mem_cons.mpr ⟨lw_p3, List.forall_mem_cons.mpr ⟨lw_p4, List.forall_mem_cons.mpr ⟨lw_p5, List.forall_mem_cons.mpr ⟨lw_p6, List.forall_mem_cons.mpr ⟨lw_p7, List.forall_mem_cons.mpr ⟨lw_p8, List.forall_mem_cons.mpr ⟨lw_p9, List.forall_mem_cons.mpr ⟨lw_p10, List.forall_mem_cons.mpr ⟨lw_p11, List.forall_mem_cons.mpr ⟨lw_p12, List.forall_mem_cons.mpr ⟨lw_p13, List.forall_mem_cons.mpr ⟨lw_p14, List.forall_mem_cons.mpr ⟨lw_p15, fun _ h => absurd h List.not_mem_nil⟩⟩⟩⟩⟩⟩⟩⟩⟩⟩⟩⟩⟩⟩⟩⟩
theorem lw_p16 : lw_okq (⟨"SightedMonths$Reader", "readDeed", "()V"⟩, 7) := ⟨⟨by decide +kernel, by decide +kernel⟩, List.mem_of_getElem? (i := 31) (by decide +kernel), List.mem_of_getElem? (i := 603) (by decide +kernel), List.mem_of_getElem? (i := 604) (by decide +kernel)⟩
theorem lw_p17 : lw_okq (⟨"SightedMonths$Reader", "passSign", "()V"⟩, 7) := ⟨⟨by decide +kernel, by decide +kernel⟩, List.mem_of_getElem? (i := 31) (by decide +kernel), List.mem_of_getElem? (i := 614) (by decide +kernel), List.mem_of_getElem? (i := 615) (by decide +kernel)⟩
theorem lw_p18 : lw_okq (⟨"SightedMonths", "forget", "()V"⟩, 16) := ⟨⟨by decide +kernel, by decide +kernel⟩, List.mem_of_getElem? (i := 23) (by decide +kernel), List.mem_of_getElem? (i := 618) (by decide +kernel), List.mem_of_getElem? (i := 619) (by decide +kernel)⟩
theorem lw_p19 : lw_okq (⟨"SightedMonths", "hasPlace", "(I)Z"⟩, 16) := ⟨⟨by decide +kernel, by decide +kernel⟩, List.mem_of_getElem? (i := 23) (by decide +kernel), List.mem_of_getElem? (i := 634) (by decide +kernel), List.mem_of_getElem? (i := 635) (by decide +kernel)⟩
theorem lw_p20 : lw_okq (⟨"SightedMonths", "hasReport", "(I)Z"⟩, 16) := ⟨⟨by decide +kernel, by decide +kernel⟩, List.mem_of_getElem? (i := 23) (by decide +kernel), List.mem_of_getElem? (i := 650) (by decide +kernel), List.mem_of_getElem? (i := 651) (by decide +kernel)⟩
theorem lw_p21 : lw_okq (⟨"SightedMonths", "hasDeed", "(I)Z"⟩, 16) := ⟨⟨by decide +kernel, by decide +kernel⟩, List.mem_of_getElem? (i := 23) (by decide +kernel), List.mem_of_getElem? (i := 658) (by decide +kernel), List.mem_of_getElem? (i := 659) (by decide +kernel)⟩
theorem lw_p22 : lw_okq (⟨"SightedMonths", "hasMonth", "(III)Z"⟩, 16) := ⟨⟨by decide +kernel, by decide +kernel⟩, List.mem_of_getElem? (i := 23) (by decide +kernel), List.mem_of_getElem? (i := 666) (by decide +kernel), List.mem_of_getElem? (i := 667) (by decide +kernel)⟩
theorem lw_p23 : lw_okq (⟨"SightedMonths", "isTold", "()Z"⟩, 16) := ⟨⟨by decide +kernel, by decide +kernel⟩, List.mem_of_getElem? (i := 23) (by decide +kernel), List.mem_of_getElem? (i := 670) (by decide +kernel), List.mem_of_getElem? (i := 671) (by decide +kernel)⟩
theorem lw_p24 : lw_okq (⟨"SightedMonths", "hasTime", "(I)Z"⟩, 16) := ⟨⟨by decide +kernel, by decide +kernel⟩, List.mem_of_getElem? (i := 23) (by decide +kernel), List.mem_of_getElem? (i := 682) (by decide +kernel), List.mem_of_getElem? (i := 683) (by decide +kernel)⟩
theorem lw_p25 : lw_okq (⟨"SightedMonths", "courtBy", "(I)LSightedMonths$Court;"⟩, 16) := ⟨⟨by decide +kernel, by decide +kernel⟩, List.mem_of_getElem? (i := 23) (by decide +kernel), List.mem_of_getElem? (i := 686) (by decide +kernel), List.mem_of_getElem? (i := 687) (by decide +kernel)⟩
theorem lw_p26 : lw_okq (⟨"SightedMonths$Court", "lineUp", "(LSightedMonths$Almanac;I)V"⟩, 7) := ⟨⟨by decide +kernel, by decide +kernel⟩, List.mem_of_getElem? (i := 272) (by decide +kernel), List.mem_of_getElem? (i := 705) (by decide +kernel), List.mem_of_getElem? (i := 706) (by decide +kernel)⟩
theorem lw_p27 : lw_okq (⟨"SightedMonths$Court", "insert", "(IJ)V"⟩, 7) := ⟨⟨by decide +kernel, by decide +kernel⟩, List.mem_of_getElem? (i := 272) (by decide +kernel), List.mem_of_getElem? (i := 717) (by decide +kernel), List.mem_of_getElem? (i := 718) (by decide +kernel)⟩
theorem lw_p28 : lw_okq (⟨"SightedMonths$Court", "verdictOn", "(LSightedMonths$Almanac;LSightedMonths$Report;)I"⟩, 7) := ⟨⟨by decide +kernel, by decide +kernel⟩, List.mem_of_getElem? (i := 272) (by decide +kernel), List.mem_of_getElem? (i := 725) (by decide +kernel), List.mem_of_getElem? (i := 726) (by decide +kernel)⟩
theorem lw_p29 : lw_okq (⟨"SightedMonths", "canBothBe", "(II)Z"⟩, 16) := ⟨⟨by decide +kernel, by decide +kernel⟩, List.mem_of_getElem? (i := 23) (by decide +kernel), List.mem_of_getElem? (i := 778) (by decide +kernel), List.mem_of_getElem? (i := 779) (by decide +kernel)⟩
theorem lw_p30 : lw_okq (⟨"SightedMonths", "unlikeBegins", "([I[I)I"⟩, 16) := ⟨⟨by decide +kernel, by decide +kernel⟩, List.mem_of_getElem? (i := 23) (by decide +kernel), List.mem_of_getElem? (i := 817) (by decide +kernel), List.mem_of_getElem? (i := 818) (by decide +kernel)⟩
theorem lw_p31 : lw_okq (⟨"SightedMonths", "judgeAlone", "(II)V"⟩, 16) := ⟨⟨by decide +kernel, by decide +kernel⟩, List.mem_of_getElem? (i := 23) (by decide +kernel), List.mem_of_getElem? (i := 825) (by decide +kernel), List.mem_of_getElem? (i := 826) (by decide +kernel)⟩
def lw_privs_2 : List (MethodName × Nat) := [(⟨"SightedMonths$Reader", "readDeed", "()V"⟩, 7), (⟨"SightedMonths$Reader", "passSign", "()V"⟩, 7), (⟨"SightedMonths", "forget", "()V"⟩, 16), (⟨"SightedMonths", "hasPlace", "(I)Z"⟩, 16), (⟨"SightedMonths", "hasReport", "(I)Z"⟩, 16), (⟨"SightedMonths", "hasDeed", "(I)Z"⟩, 16), (⟨"SightedMonths", "hasMonth", "(III)Z"⟩, 16), (⟨"SightedMonths", "isTold", "()Z"⟩, 16), (⟨"SightedMonths", "hasTime", "(I)Z"⟩, 16), (⟨"SightedMonths", "courtBy", "(I)LSightedMonths$Court;"⟩, 16), (⟨"SightedMonths$Court", "lineUp", "(LSightedMonths$Almanac;I)V"⟩, 7), (⟨"SightedMonths$Court", "insert", "(IJ)V"⟩, 7), (⟨"SightedMonths$Court", "verdictOn", "(LSightedMonths$Almanac;LSightedMonths$Report;)I"⟩, 7), (⟨"SightedMonths", "canBothBe", "(II)Z"⟩, 16), (⟨"SightedMonths", "unlikeBegins", "([I[I)I"⟩, 16), (⟨"SightedMonths", "judgeAlone", "(II)V"⟩, 16)]
theorem lw_r2 : ∀ q ∈ lw_privs_2, lw_okq q := List.forall_mem_cons.mpr ⟨lw_p16, List.forall_mem_cons.mpr ⟨lw_p17, List.forall_mem_cons.mpr ⟨lw_p18, List.forall_mem_cons.mpr ⟨lw_p19, List.forall_mem_cons.mpr ⟨lw_p20, List.forall_mem_cons.mpr ⟨lw_p21, List.forall_mem_cons.mpr ⟨lw_p22, List.forall_mem_cons.mpr ⟨lw_p23, List.forall_mem_cons.mpr ⟨lw_p24, List.forall_mem_cons.mpr ⟨lw_p25, List.forall_mem_cons.mpr ⟨lw_p26, List.forall_mem_cons.mpr ⟨lw_p27, List.forall_mem_cons.mpr ⟨lw_p28, List.forall_mem_cons.mpr ⟨lw_p29, List.forall_mem_cons.mpr ⟨lw_p30, List.forall_mem_cons.mpr ⟨lw_p31, fun _ h => absurd h List.not_mem_nil⟩⟩⟩⟩⟩⟩⟩⟩⟩⟩⟩⟩⟩⟩⟩⟩
theorem lw_p32 : lw_okq (⟨"SightedMonths", "tallyBy", "(I)LSightedMonths$Tally;"⟩, 16) := ⟨⟨by decide +kernel, by decide +kernel⟩, List.mem_of_getElem? (i := 23) (by decide +kernel), List.mem_of_getElem? (i := 844) (by decide +kernel), List.mem_of_getElem? (i := 845) (by decide +kernel)⟩
theorem lw_p33 : lw_okq (⟨"SightedMonths$Tally", "countBefore", "(LSightedMonths$Frame;)V"⟩, 6) := ⟨⟨by decide +kernel, by decide +kernel⟩, List.mem_of_getElem? (i := 310) (by decide +kernel), List.mem_of_getElem? (i := 855) (by decide +kernel), List.mem_of_getElem? (i := 856) (by decide +kernel)⟩
theorem lw_p34 : lw_okq (⟨"SightedMonths$Tally", "takeOnWithFull", "(II)V"⟩, 6) := ⟨⟨by decide +kernel, by decide +kernel⟩, List.mem_of_getElem? (i := 310) (by decide +kernel), List.mem_of_getElem? (i := 863) (by decide +kernel), List.mem_of_getElem? (i := 864) (by decide +kernel)⟩
theorem lw_p35 : lw_okq (⟨"SightedMonths$Tally", "takeOnWithLean", "(II)V"⟩, 6) := ⟨⟨by decide +kernel, by decide +kernel⟩, List.mem_of_getElem? (i := 310) (by decide +kernel), List.mem_of_getElem? (i := 876) (by decide +kernel), List.mem_of_getElem? (i := 877) (by decide +kernel)⟩
theorem lw_p36 : lw_okq (⟨"SightedMonths$Tally", "countBehind", "()V"⟩, 6) := ⟨⟨by decide +kernel, by decide +kernel⟩, List.mem_of_getElem? (i := 310) (by decide +kernel), List.mem_of_getElem? (i := 881) (by decide +kernel), List.mem_of_getElem? (i := 882) (by decide +kernel)⟩
theorem lw_p37 : lw_okq (⟨"SightedMonths$Tally", "withFull", "(III)I"⟩, 6) := ⟨⟨by decide +kernel, by decide +kernel⟩, List.mem_of_getElem? (i := 310) (by decide +kernel), List.mem_of_getElem? (i := 886) (by decide +kernel), List.mem_of_getElem? (i := 887) (by decide +kernel)⟩
theorem lw_p38 : lw_okq (⟨"SightedMonths$Tally", "withLean", "(III)I"⟩, 6) := ⟨⟨by decide +kernel, by decide +kernel⟩, List.mem_of_getElem? (i := 310) (by decide +kernel), List.mem_of_getElem? (i := 890) (by decide +kernel), List.mem_of_getElem? (i := 891) (by decide +kernel)⟩
theorem lw_p39 : lw_okq (⟨"SightedMonths$Tally", "countStarts", "()V"⟩, 6) := ⟨⟨by decide +kernel, by decide +kernel⟩, List.mem_of_getElem? (i := 310) (by decide +kernel), List.mem_of_getElem? (i := 894) (by decide +kernel), List.mem_of_getElem? (i := 895) (by decide +kernel)⟩
theorem lw_p40 : lw_okq (⟨"SightedMonths", "hasDate", "(II)Z"⟩, 16) := ⟨⟨by decide +kernel, by decide +kernel⟩, List.mem_of_getElem? (i := 23) (by decide +kernel), List.mem_of_getElem? (i := 982) (by decide +kernel), List.mem_of_getElem? (i := 983) (by decide +kernel)⟩
theorem lw_p41 : lw_okq (⟨"SightedMonths$Search", "fillCell", "(II)V"⟩, 5) := ⟨⟨by decide +kernel, by decide +kernel⟩, List.mem_of_getElem? (i := 335) (by decide +kernel), List.mem_of_getElem? (i := 1019) (by decide +kernel), List.mem_of_getElem? (i := 1020) (by decide +kernel)⟩
theorem lw_p42 : lw_okq (⟨"SightedMonths$Search", "withFull", "(III)I"⟩, 5) := ⟨⟨by decide +kernel, by decide +kernel⟩, List.mem_of_getElem? (i := 335) (by decide +kernel), List.mem_of_getElem? (i := 1025) (by decide +kernel), List.mem_of_getElem? (i := 1026) (by decide +kernel)⟩
theorem lw_p43 : lw_okq (⟨"SightedMonths$Search", "withLean", "(III)I"⟩, 5) := ⟨⟨by decide +kernel, by decide +kernel⟩, List.mem_of_getElem? (i := 335) (by decide +kernel), List.mem_of_getElem? (i := 1031) (by decide +kernel), List.mem_of_getElem? (i := 1032) (by decide +kernel)⟩
theorem lw_p44 : lw_okq (⟨"SightedMonths", "backReport", "(LSightedMonths$Report;)V"⟩, 16) := ⟨⟨by decide +kernel, by decide +kernel⟩, List.mem_of_getElem? (i := 23) (by decide +kernel), List.mem_of_getElem? (i := 1049) (by decide +kernel), List.mem_of_getElem? (i := 1050) (by decide +kernel)⟩
theorem lw_p45 : lw_okq (⟨"SightedMonths", "historyNow", "()LSightedMonths$History;"⟩, 16) := ⟨⟨by decide +kernel, by decide +kernel⟩, List.mem_of_getElem? (i := 23) (by decide +kernel), List.mem_of_getElem? (i := 1082) (by decide +kernel), List.mem_of_getElem? (i := 1083) (by decide +kernel)⟩
theorem lw_p46 : lw_okq (⟨"SightedMonths$History", "changesAt", "(II)Z"⟩, 3) := ⟨⟨by decide +kernel, by decide +kernel⟩, List.mem_of_getElem? (i := 357) (by decide +kernel), List.mem_of_getElem? (i := 1101) (by decide +kernel), List.mem_of_getElem? (i := 1102) (by decide +kernel)⟩
theorem lw_p47 : lw_okq (⟨"SightedMonths", "putOut", "(C)V"⟩, 16) := ⟨⟨by decide +kernel, by decide +kernel⟩, List.mem_of_getElem? (i := 23) (by decide +kernel), List.mem_of_getElem? (i := 1117) (by decide +kernel), List.mem_of_getElem? (i := 1118) (by decide +kernel)⟩
def lw_privs_3 : List (MethodName × Nat) := [(⟨"SightedMonths", "tallyBy", "(I)LSightedMonths$Tally;"⟩, 16), (⟨"SightedMonths$Tally", "countBefore", "(LSightedMonths$Frame;)V"⟩, 6), (⟨"SightedMonths$Tally", "takeOnWithFull", "(II)V"⟩, 6), (⟨"SightedMonths$Tally", "takeOnWithLean", "(II)V"⟩, 6), (⟨"SightedMonths$Tally", "countBehind", "()V"⟩, 6), (⟨"SightedMonths$Tally", "withFull", "(III)I"⟩, 6), (⟨"SightedMonths$Tally", "withLean", "(III)I"⟩, 6), (⟨"SightedMonths$Tally", "countStarts", "()V"⟩, 6), (⟨"SightedMonths", "hasDate", "(II)Z"⟩, 16), (⟨"SightedMonths$Search", "fillCell", "(II)V"⟩, 5), (⟨"SightedMonths$Search", "withFull", "(III)I"⟩, 5), (⟨"SightedMonths$Search", "withLean", "(III)I"⟩, 5), (⟨"SightedMonths", "backReport", "(LSightedMonths$Report;)V"⟩, 16), (⟨"SightedMonths", "historyNow", "()LSightedMonths$History;"⟩, 16), (⟨"SightedMonths$History", "changesAt", "(II)Z"⟩, 3), (⟨"SightedMonths", "putOut", "(C)V"⟩, 16)]
theorem lw_r3 : ∀ q ∈ lw_privs_3, lw_okq q := List.forall_mem_cons.mpr ⟨lw_p32, List.forall_mem_cons.mpr ⟨lw_p33, List.forall_mem_cons.mpr ⟨lw_p34, List.forall_mem_cons.mpr ⟨lw_p35, List.forall_mem_cons.mpr ⟨lw_p36, List.forall_mem_cons.mpr ⟨lw_p37, List.forall_mem_cons.mpr ⟨lw_p38, List.forall_mem_cons.mpr ⟨lw_p39, List.forall_mem_cons.mpr ⟨lw_p40, List.forall_mem_cons.mpr ⟨lw_p41, List.forall_mem_cons.mpr ⟨lw_p42, List.forall_mem_cons.mpr ⟨lw_p43, List.forall_mem_cons.mpr ⟨lw_p44, List.forall_mem_cons.mpr ⟨lw_p45, List.forall_mem_cons.mpr ⟨lw_p46, List.forall_mem_cons.mpr ⟨lw_p47, fun _ h => absurd h List.not_mem_nil⟩⟩⟩⟩⟩⟩⟩⟩⟩⟩⟩⟩⟩⟩⟩⟩
theorem lw_p48 : lw_okq (⟨"SightedMonths", "endByOfficial", "(II)I"⟩, 16) := ⟨⟨by decide +kernel, by decide +kernel⟩, List.mem_of_getElem? (i := 23) (by decide +kernel), List.mem_of_getElem? (i := 1129) (by decide +kernel), List.mem_of_getElem? (i := 1130) (by decide +kernel)⟩
theorem lw_p49 : lw_okq (⟨"SightedMonths", "leastLead", "(ILSightedMonths$Deed;LSightedMonths$Deed;)I"⟩, 16) := ⟨⟨by decide +kernel, by decide +kernel⟩, List.mem_of_getElem? (i := 23) (by decide +kernel), List.mem_of_getElem? (i := 1159) (by decide +kernel), List.mem_of_getElem? (i := 1160) (by decide +kernel)⟩
theorem lw_p50 : lw_okq (⟨"SightedMonthsModel", "movesAll", "(Z)V"⟩, 57) := ⟨⟨by decide +kernel, by decide +kernel⟩, List.mem_of_getElem? (i := 1195) (by decide +kernel), List.mem_of_getElem? (i := 1389) (by decide +kernel), List.mem_of_getElem? (i := 1390) (by decide +kernel)⟩
theorem lw_p51 : lw_okq (⟨"SightedMonthsModel", "moves", "(I)I"⟩, 57) := ⟨⟨by decide +kernel, by decide +kernel⟩, List.mem_of_getElem? (i := 1195) (by decide +kernel), List.mem_of_getElem? (i := 1393) (by decide +kernel), List.mem_of_getElem? (i := 1394) (by decide +kernel)⟩
theorem lw_p52 : lw_okq (⟨"SightedMonthsModel", "movesRow", "([I)V"⟩, 57) := ⟨⟨by decide +kernel, by decide +kernel⟩, List.mem_of_getElem? (i := 1195) (by decide +kernel), List.mem_of_getElem? (i := 1397) (by decide +kernel), List.mem_of_getElem? (i := 1398) (by decide +kernel)⟩
theorem lw_p53 : lw_okq (⟨"SightedMonthsModel", "next", "()V"⟩, 57) := ⟨⟨by decide +kernel, by decide +kernel⟩, List.mem_of_getElem? (i := 1195) (by decide +kernel), List.mem_of_getElem? (i := 1401) (by decide +kernel), List.mem_of_getElem? (i := 1402) (by decide +kernel)⟩
theorem lw_p54 : lw_okq (⟨"SightedMonthsModel", "isAt", "(II)Z"⟩, 57) := ⟨⟨by decide +kernel, by decide +kernel⟩, List.mem_of_getElem? (i := 1195) (by decide +kernel), List.mem_of_getElem? (i := 1405) (by decide +kernel), List.mem_of_getElem? (i := 1406) (by decide +kernel)⟩
theorem lw_p55 : lw_okq (⟨"SightedMonthsModel", "readsLine", "()V"⟩, 57) := ⟨⟨by decide +kernel, by decide +kernel⟩, List.mem_of_getElem? (i := 1195) (by decide +kernel), List.mem_of_getElem? (i := 1411) (by decide +kernel), List.mem_of_getElem? (i := 1412) (by decide +kernel)⟩
theorem lw_p56 : lw_okq (⟨"SightedMonthsModel", "readsHead", "()V"⟩, 57) := ⟨⟨by decide +kernel, by decide +kernel⟩, List.mem_of_getElem? (i := 1195) (by decide +kernel), List.mem_of_getElem? (i := 1415) (by decide +kernel), List.mem_of_getElem? (i := 1416) (by decide +kernel)⟩
theorem lw_p57 : lw_okq (⟨"SightedMonthsModel", "word", "(Ljava/lang/String;)V"⟩, 57) := ⟨⟨by decide +kernel, by decide +kernel⟩, List.mem_of_getElem? (i := 1195) (by decide +kernel), List.mem_of_getElem? (i := 1420) (by decide +kernel), List.mem_of_getElem? (i := 1421) (by decide +kernel)⟩
theorem lw_p58 : lw_okq (⟨"SightedMonthsModel", "isWord", "(Ljava/lang/String;)Z"⟩, 57) := ⟨⟨by decide +kernel, by decide +kernel⟩, List.mem_of_getElem? (i := 1195) (by decide +kernel), List.mem_of_getElem? (i := 1424) (by decide +kernel), List.mem_of_getElem? (i := 1425) (by decide +kernel)⟩
theorem lw_p59 : lw_okq (⟨"SightedMonthsModel", "passes", "(Z)V"⟩, 57) := ⟨⟨by decide +kernel, by decide +kernel⟩, List.mem_of_getElem? (i := 1195) (by decide +kernel), List.mem_of_getElem? (i := 1430) (by decide +kernel), List.mem_of_getElem? (i := 1431) (by decide +kernel)⟩
theorem lw_p60 : lw_okq (⟨"SightedMonthsModel", "faults", "(I)V"⟩, 57) := ⟨⟨by decide +kernel, by decide +kernel⟩, List.mem_of_getElem? (i := 1195) (by decide +kernel), List.mem_of_getElem? (i := 1434) (by decide +kernel), List.mem_of_getElem? (i := 1435) (by decide +kernel)⟩
theorem lw_p61 : lw_okq (⟨"SightedMonthsModel", "faultsAt", "(II)V"⟩, 57) := ⟨⟨by decide +kernel, by decide +kernel⟩, List.mem_of_getElem? (i := 1195) (by decide +kernel), List.mem_of_getElem? (i := 1438) (by decide +kernel), List.mem_of_getElem? (i := 1439) (by decide +kernel)⟩
theorem lw_p62 : lw_okq (⟨"SightedMonthsModel", "numberBehind", "(Ljava/lang/String;II)I"⟩, 57) := ⟨⟨by decide +kernel, by decide +kernel⟩, List.mem_of_getElem? (i := 1195) (by decide +kernel), List.mem_of_getElem? (i := 1443) (by decide +kernel), List.mem_of_getElem? (i := 1444) (by decide +kernel)⟩
theorem lw_p63 : lw_okq (⟨"SightedMonthsModel", "number", "(II)I"⟩, 57) := ⟨⟨by decide +kernel, by decide +kernel⟩, List.mem_of_getElem? (i := 1195) (by decide +kernel), List.mem_of_getElem? (i := 1447) (by decide +kernel), List.mem_of_getElem? (i := 1448) (by decide +kernel)⟩
def lw_privs_4 : List (MethodName × Nat) := [(⟨"SightedMonths", "endByOfficial", "(II)I"⟩, 16), (⟨"SightedMonths", "leastLead", "(ILSightedMonths$Deed;LSightedMonths$Deed;)I"⟩, 16), (⟨"SightedMonthsModel", "movesAll", "(Z)V"⟩, 57), (⟨"SightedMonthsModel", "moves", "(I)I"⟩, 57), (⟨"SightedMonthsModel", "movesRow", "([I)V"⟩, 57), (⟨"SightedMonthsModel", "next", "()V"⟩, 57), (⟨"SightedMonthsModel", "isAt", "(II)Z"⟩, 57), (⟨"SightedMonthsModel", "readsLine", "()V"⟩, 57), (⟨"SightedMonthsModel", "readsHead", "()V"⟩, 57), (⟨"SightedMonthsModel", "word", "(Ljava/lang/String;)V"⟩, 57), (⟨"SightedMonthsModel", "isWord", "(Ljava/lang/String;)Z"⟩, 57), (⟨"SightedMonthsModel", "passes", "(Z)V"⟩, 57), (⟨"SightedMonthsModel", "faults", "(I)V"⟩, 57), (⟨"SightedMonthsModel", "faultsAt", "(II)V"⟩, 57), (⟨"SightedMonthsModel", "numberBehind", "(Ljava/lang/String;II)I"⟩, 57), (⟨"SightedMonthsModel", "number", "(II)I"⟩, 57)]
theorem lw_r4 : ∀ q ∈ lw_privs_4, lw_okq q := List.forall_mem_cons.mpr ⟨lw_p48, List.forall_mem_cons.mpr ⟨lw_p49, List.forall_mem_cons.mpr ⟨lw_p50, List.forall_mem_cons.mpr ⟨lw_p51, List.forall_mem_cons.mpr ⟨lw_p52, List.forall_mem_cons.mpr ⟨lw_p53, List.forall_mem_cons.mpr ⟨lw_p54, List.forall_mem_cons.mpr ⟨lw_p55, List.forall_mem_cons.mpr ⟨lw_p56, List.forall_mem_cons.mpr ⟨lw_p57, List.forall_mem_cons.mpr ⟨lw_p58, List.forall_mem_cons.mpr ⟨lw_p59, List.forall_mem_cons.mpr ⟨lw_p60, List.forall_mem_cons.mpr ⟨lw_p61, List.forall_mem_cons.mpr ⟨lw_p62, List.forall_mem_cons.mpr ⟨lw_p63, fun _ h => absurd h List.not_mem_nil⟩⟩⟩⟩⟩⟩⟩⟩⟩⟩⟩⟩⟩⟩⟩⟩
theorem lw_p64 : lw_okq (⟨"SightedMonthsModel", "readsMoon", "()V"⟩, 57) := ⟨⟨by decide +kernel, by decide +kernel⟩, List.mem_of_getElem? (i := 1195) (by decide +kernel), List.mem_of_getElem? (i := 1454) (by decide +kernel), List.mem_of_getElem? (i := 1455) (by decide +kernel)⟩
theorem lw_p65 : lw_okq (⟨"SightedMonthsModel", "readsPlace", "()V"⟩, 57) := ⟨⟨by decide +kernel, by decide +kernel⟩, List.mem_of_getElem? (i := 1195) (by decide +kernel), List.mem_of_getElem? (i := 1461) (by decide +kernel), List.mem_of_getElem? (i := 1462) (by decide +kernel)⟩
theorem lw_p66 : lw_okq (⟨"SightedMonthsModel", "named", "()I"⟩, 57) := ⟨⟨by decide +kernel, by decide +kernel⟩, List.mem_of_getElem? (i := 1195) (by decide +kernel), List.mem_of_getElem? (i := 1465) (by decide +kernel), List.mem_of_getElem? (i := 1466) (by decide +kernel)⟩
theorem lw_p67 : lw_okq (⟨"SightedMonthsModel", "readsReport", "(I)V"⟩, 57) := ⟨⟨by decide +kernel, by decide +kernel⟩, List.mem_of_getElem? (i := 1195) (by decide +kernel), List.mem_of_getElem? (i := 1473) (by decide +kernel), List.mem_of_getElem? (i := 1474) (by decide +kernel)⟩
theorem lw_p68 : lw_okq (⟨"SightedMonthsModel", "placeHere", "()I"⟩, 57) := ⟨⟨by decide +kernel, by decide +kernel⟩, List.mem_of_getElem? (i := 1195) (by decide +kernel), List.mem_of_getElem? (i := 1477) (by decide +kernel), List.mem_of_getElem? (i := 1478) (by decide +kernel)⟩
theorem lw_p69 : lw_okq (⟨"SightedMonthsModel", "lays", "(IIIII)V"⟩, 57) := ⟨⟨by decide +kernel, by decide +kernel⟩, List.mem_of_getElem? (i := 1195) (by decide +kernel), List.mem_of_getElem? (i := 1485) (by decide +kernel), List.mem_of_getElem? (i := 1486) (by decide +kernel)⟩
theorem lw_p70 : lw_okq (⟨"SightedMonthsModel", "readsDeed", "()V"⟩, 57) := ⟨⟨by decide +kernel, by decide +kernel⟩, List.mem_of_getElem? (i := 1195) (by decide +kernel), List.mem_of_getElem? (i := 1490) (by decide +kernel), List.mem_of_getElem? (i := 1491) (by decide +kernel)⟩
theorem lw_p71 : lw_okq (⟨"SightedMonthsModel", "isPlace", "(I)Z"⟩, 57) := ⟨⟨by decide +kernel, by decide +kernel⟩, List.mem_of_getElem? (i := 1195) (by decide +kernel), List.mem_of_getElem? (i := 1509) (by decide +kernel), List.mem_of_getElem? (i := 1510) (by decide +kernel)⟩
theorem lw_p72 : lw_okq (⟨"SightedMonthsModel", "isNameAhead", "(II)Z"⟩, 57) := ⟨⟨by decide +kernel, by decide +kernel⟩, List.mem_of_getElem? (i := 1195) (by decide +kernel), List.mem_of_getElem? (i := 1514) (by decide +kernel), List.mem_of_getElem? (i := 1515) (by decide +kernel)⟩
theorem lw_p73 : lw_okq (⟨"SightedMonthsModel", "isReport", "(I)Z"⟩, 57) := ⟨⟨by decide +kernel, by decide +kernel⟩, List.mem_of_getElem? (i := 1195) (by decide +kernel), List.mem_of_getElem? (i := 1522) (by decide +kernel), List.mem_of_getElem? (i := 1523) (by decide +kernel)⟩
theorem lw_p74 : lw_okq (⟨"SightedMonthsModel", "isDeed", "(I)Z"⟩, 57) := ⟨⟨by decide +kernel, by decide +kernel⟩, List.mem_of_getElem? (i := 1195) (by decide +kernel), List.mem_of_getElem? (i := 1530) (by decide +kernel), List.mem_of_getElem? (i := 1531) (by decide +kernel)⟩
theorem lw_p75 : lw_okq (⟨"SightedMonthsModel", "earlyOf", "(I)I"⟩, 57) := ⟨⟨by decide +kernel, by decide +kernel⟩, List.mem_of_getElem? (i := 1195) (by decide +kernel), List.mem_of_getElem? (i := 1538) (by decide +kernel), List.mem_of_getElem? (i := 1539) (by decide +kernel)⟩
theorem lw_p76 : lw_okq (⟨"SightedMonthsModel", "isTime", "(I)Z"⟩, 57) := ⟨⟨by decide +kernel, by decide +kernel⟩, List.mem_of_getElem? (i := 1195) (by decide +kernel), List.mem_of_getElem? (i := 1546) (by decide +kernel), List.mem_of_getElem? (i := 1547) (by decide +kernel)⟩
theorem lw_p77 : lw_okq (⟨"SightedMonthsModel", "judgesAll", "(I)V"⟩, 57) := ⟨⟨by decide +kernel, by decide +kernel⟩, List.mem_of_getElem? (i := 1195) (by decide +kernel), List.mem_of_getElem? (i := 1551) (by decide +kernel), List.mem_of_getElem? (i := 1552) (by decide +kernel)⟩
theorem lw_p78 : lw_okq (⟨"SightedMonthsModel", "frees", "()V"⟩, 57) := ⟨⟨by decide +kernel, by decide +kernel⟩, List.mem_of_getElem? (i := 1195) (by decide +kernel), List.mem_of_getElem? (i := 1555) (by decide +kernel), List.mem_of_getElem? (i := 1556) (by decide +kernel)⟩
theorem lw_p79 : lw_okq (⟨"SightedMonthsModel", "unpins", "()V"⟩, 57) := ⟨⟨by decide +kernel, by decide +kernel⟩, List.mem_of_getElem? (i := 1195) (by decide +kernel), List.mem_of_getElem? (i := 1559) (by decide +kernel), List.mem_of_getElem? (i := 1560) (by decide +kernel)⟩
def lw_privs_5 : List (MethodName × Nat) := [(⟨"SightedMonthsModel", "readsMoon", "()V"⟩, 57), (⟨"SightedMonthsModel", "readsPlace", "()V"⟩, 57), (⟨"SightedMonthsModel", "named", "()I"⟩, 57), (⟨"SightedMonthsModel", "readsReport", "(I)V"⟩, 57), (⟨"SightedMonthsModel", "placeHere", "()I"⟩, 57), (⟨"SightedMonthsModel", "lays", "(IIIII)V"⟩, 57), (⟨"SightedMonthsModel", "readsDeed", "()V"⟩, 57), (⟨"SightedMonthsModel", "isPlace", "(I)Z"⟩, 57), (⟨"SightedMonthsModel", "isNameAhead", "(II)Z"⟩, 57), (⟨"SightedMonthsModel", "isReport", "(I)Z"⟩, 57), (⟨"SightedMonthsModel", "isDeed", "(I)Z"⟩, 57), (⟨"SightedMonthsModel", "earlyOf", "(I)I"⟩, 57), (⟨"SightedMonthsModel", "isTime", "(I)Z"⟩, 57), (⟨"SightedMonthsModel", "judgesAll", "(I)V"⟩, 57), (⟨"SightedMonthsModel", "frees", "()V"⟩, 57), (⟨"SightedMonthsModel", "unpins", "()V"⟩, 57)]
theorem lw_r5 : ∀ q ∈ lw_privs_5, lw_okq q := List.forall_mem_cons.mpr ⟨lw_p64, List.forall_mem_cons.mpr ⟨lw_p65, List.forall_mem_cons.mpr ⟨lw_p66, List.forall_mem_cons.mpr ⟨lw_p67, List.forall_mem_cons.mpr ⟨lw_p68, List.forall_mem_cons.mpr ⟨lw_p69, List.forall_mem_cons.mpr ⟨lw_p70, List.forall_mem_cons.mpr ⟨lw_p71, List.forall_mem_cons.mpr ⟨lw_p72, List.forall_mem_cons.mpr ⟨lw_p73, List.forall_mem_cons.mpr ⟨lw_p74, List.forall_mem_cons.mpr ⟨lw_p75, List.forall_mem_cons.mpr ⟨lw_p76, List.forall_mem_cons.mpr ⟨lw_p77, List.forall_mem_cons.mpr ⟨lw_p78, List.forall_mem_cons.mpr ⟨lw_p79, fun _ h => absurd h List.not_mem_nil⟩⟩⟩⟩⟩⟩⟩⟩⟩⟩⟩⟩⟩⟩⟩⟩
theorem lw_p80 : lw_okq (⟨"SightedMonthsModel", "laysRow", "(I)V"⟩, 57) := ⟨⟨by decide +kernel, by decide +kernel⟩, List.mem_of_getElem? (i := 1195) (by decide +kernel), List.mem_of_getElem? (i := 1563) (by decide +kernel), List.mem_of_getElem? (i := 1564) (by decide +kernel)⟩
theorem lw_p81 : lw_okq (⟨"SightedMonthsModel", "isKnown", "(II)Z"⟩, 57) := ⟨⟨by decide +kernel, by decide +kernel⟩, List.mem_of_getElem? (i := 1195) (by decide +kernel), List.mem_of_getElem? (i := 1567) (by decide +kernel), List.mem_of_getElem? (i := 1568) (by decide +kernel)⟩
theorem lw_p82 : lw_okq (⟨"SightedMonthsModel", "isAhead", "(II)Z"⟩, 57) := ⟨⟨by decide +kernel, by decide +kernel⟩, List.mem_of_getElem? (i := 1195) (by decide +kernel), List.mem_of_getElem? (i := 1571) (by decide +kernel), List.mem_of_getElem? (i := 1572) (by decide +kernel)⟩
theorem lw_p83 : lw_okq (⟨"SightedMonthsModel", "trustOf", "(I)I"⟩, 57) := ⟨⟨by decide +kernel, by decide +kernel⟩, List.mem_of_getElem? (i := 1195) (by decide +kernel), List.mem_of_getElem? (i := 1575) (by decide +kernel), List.mem_of_getElem? (i := 1576) (by decide +kernel)⟩
theorem lw_p84 : lw_okq (⟨"SightedMonthsModel", "judges", "(I)I"⟩, 57) := ⟨⟨by decide +kernel, by decide +kernel⟩, List.mem_of_getElem? (i := 1195) (by decide +kernel), List.mem_of_getElem? (i := 1579) (by decide +kernel), List.mem_of_getElem? (i := 1580) (by decide +kernel)⟩
theorem lw_p85 : lw_okq (⟨"SightedMonthsModel", "holds", "(I)V"⟩, 57) := ⟨⟨by decide +kernel, by decide +kernel⟩, List.mem_of_getElem? (i := 1195) (by decide +kernel), List.mem_of_getElem? (i := 1583) (by decide +kernel), List.mem_of_getElem? (i := 1584) (by decide +kernel)⟩
theorem lw_p86 : lw_okq (⟨"SightedMonthsModel", "counts", "()I"⟩, 57) := ⟨⟨by decide +kernel, by decide +kernel⟩, List.mem_of_getElem? (i := 1195) (by decide +kernel), List.mem_of_getElem? (i := 1587) (by decide +kernel), List.mem_of_getElem? (i := 1588) (by decide +kernel)⟩
theorem lw_p87 : lw_okq (⟨"SightedMonthsModel", "isOpen", "(II)Z"⟩, 57) := ⟨⟨by decide +kernel, by decide +kernel⟩, List.mem_of_getElem? (i := 1195) (by decide +kernel), List.mem_of_getElem? (i := 1591) (by decide +kernel), List.mem_of_getElem? (i := 1592) (by decide +kernel)⟩
theorem lw_p88 : lw_okq (⟨"SightedMonthsModel", "waysBy", "(IIII)I"⟩, 57) := ⟨⟨by decide +kernel, by decide +kernel⟩, List.mem_of_getElem? (i := 1195) (by decide +kernel), List.mem_of_getElem? (i := 1595) (by decide +kernel), List.mem_of_getElem? (i := 1596) (by decide +kernel)⟩
theorem lw_p89 : lw_okq (⟨"SightedMonthsModel", "runBehind", "(II)I"⟩, 57) := ⟨⟨by decide +kernel, by decide +kernel⟩, List.mem_of_getElem? (i := 1195) (by decide +kernel), List.mem_of_getElem? (i := 1599) (by decide +kernel), List.mem_of_getElem? (i := 1600) (by decide +kernel)⟩
theorem lw_p90 : lw_okq (⟨"SightedMonthsModel", "takenBits", "()I"⟩, 57) := ⟨⟨by decide +kernel, by decide +kernel⟩, List.mem_of_getElem? (i := 1195) (by decide +kernel), List.mem_of_getElem? (i := 1610) (by decide +kernel), List.mem_of_getElem? (i := 1611) (by decide +kernel)⟩
theorem lw_p91 : lw_okq (⟨"SightedMonthsModel", "areBoth", "(II)Z"⟩, 57) := ⟨⟨by decide +kernel, by decide +kernel⟩, List.mem_of_getElem? (i := 1195) (by decide +kernel), List.mem_of_getElem? (i := 1623) (by decide +kernel), List.mem_of_getElem? (i := 1624) (by decide +kernel)⟩
theorem lw_p92 : lw_okq (⟨"SightedMonthsModel", "isBegin", "(I)Z"⟩, 57) := ⟨⟨by decide +kernel, by decide +kernel⟩, List.mem_of_getElem? (i := 1195) (by decide +kernel), List.mem_of_getElem? (i := 1647) (by decide +kernel), List.mem_of_getElem? (i := 1648) (by decide +kernel)⟩
theorem lw_p93 : lw_okq (⟨"SightedMonthsModel", "officialBy", "(I)V"⟩, 57) := ⟨⟨by decide +kernel, by decide +kernel⟩, List.mem_of_getElem? (i := 1195) (by decide +kernel), List.mem_of_getElem? (i := 1651) (by decide +kernel), List.mem_of_getElem? (i := 1652) (by decide +kernel)⟩
theorem lw_p94 : lw_okq (⟨"SightedMonthsModel", "laysOfficial", "()V"⟩, 57) := ⟨⟨by decide +kernel, by decide +kernel⟩, List.mem_of_getElem? (i := 1195) (by decide +kernel), List.mem_of_getElem? (i := 1655) (by decide +kernel), List.mem_of_getElem? (i := 1656) (by decide +kernel)⟩
theorem lw_p95 : lw_okq (⟨"SightedMonthsModel", "spanOf", "(II)I"⟩, 57) := ⟨⟨by decide +kernel, by decide +kernel⟩, List.mem_of_getElem? (i := 1195) (by decide +kernel), List.mem_of_getElem? (i := 1663) (by decide +kernel), List.mem_of_getElem? (i := 1664) (by decide +kernel)⟩
def lw_privs_6 : List (MethodName × Nat) := [(⟨"SightedMonthsModel", "laysRow", "(I)V"⟩, 57), (⟨"SightedMonthsModel", "isKnown", "(II)Z"⟩, 57), (⟨"SightedMonthsModel", "isAhead", "(II)Z"⟩, 57), (⟨"SightedMonthsModel", "trustOf", "(I)I"⟩, 57), (⟨"SightedMonthsModel", "judges", "(I)I"⟩, 57), (⟨"SightedMonthsModel", "holds", "(I)V"⟩, 57), (⟨"SightedMonthsModel", "counts", "()I"⟩, 57), (⟨"SightedMonthsModel", "isOpen", "(II)Z"⟩, 57), (⟨"SightedMonthsModel", "waysBy", "(IIII)I"⟩, 57), (⟨"SightedMonthsModel", "runBehind", "(II)I"⟩, 57), (⟨"SightedMonthsModel", "takenBits", "()I"⟩, 57), (⟨"SightedMonthsModel", "areBoth", "(II)Z"⟩, 57), (⟨"SightedMonthsModel", "isBegin", "(I)Z"⟩, 57), (⟨"SightedMonthsModel", "officialBy", "(I)V"⟩, 57), (⟨"SightedMonthsModel", "laysOfficial", "()V"⟩, 57), (⟨"SightedMonthsModel", "spanOf", "(II)I"⟩, 57)]
theorem lw_r6 : ∀ q ∈ lw_privs_6, lw_okq q := List.forall_mem_cons.mpr ⟨lw_p80, List.forall_mem_cons.mpr ⟨lw_p81, List.forall_mem_cons.mpr ⟨lw_p82, List.forall_mem_cons.mpr ⟨lw_p83, List.forall_mem_cons.mpr ⟨lw_p84, List.forall_mem_cons.mpr ⟨lw_p85, List.forall_mem_cons.mpr ⟨lw_p86, List.forall_mem_cons.mpr ⟨lw_p87, List.forall_mem_cons.mpr ⟨lw_p88, List.forall_mem_cons.mpr ⟨lw_p89, List.forall_mem_cons.mpr ⟨lw_p90, List.forall_mem_cons.mpr ⟨lw_p91, List.forall_mem_cons.mpr ⟨lw_p92, List.forall_mem_cons.mpr ⟨lw_p93, List.forall_mem_cons.mpr ⟨lw_p94, List.forall_mem_cons.mpr ⟨lw_p95, fun _ h => absurd h List.not_mem_nil⟩⟩⟩⟩⟩⟩⟩⟩⟩⟩⟩⟩⟩⟩⟩⟩
theorem lw_p96 : lw_okq (⟨"SightedMonthsModel", "beginsOn", "(II)I"⟩, 57) := ⟨⟨by decide +kernel, by decide +kernel⟩, List.mem_of_getElem? (i := 1195) (by decide +kernel), List.mem_of_getElem? (i := 1667) (by decide +kernel), List.mem_of_getElem? (i := 1668) (by decide +kernel)⟩
theorem lw_p97 : lw_okq (⟨"SightedMonthsModel", "countsWith", "(IIII)I"⟩, 57) := ⟨⟨by decide +kernel, by decide +kernel⟩, List.mem_of_getElem? (i := 1195) (by decide +kernel), List.mem_of_getElem? (i := 1671) (by decide +kernel), List.mem_of_getElem? (i := 1672) (by decide +kernel)⟩
theorem lw_p98 : lw_okq (⟨"SightedMonthsModel", "isMonth", "(I)Z"⟩, 57) := ⟨⟨by decide +kernel, by decide +kernel⟩, List.mem_of_getElem? (i := 1195) (by decide +kernel), List.mem_of_getElem? (i := 1683) (by decide +kernel), List.mem_of_getElem? (i := 1684) (by decide +kernel)⟩
theorem lw_p99 : lw_okq (⟨"SightedMonthsModel", "laysRanked", "(I)V"⟩, 57) := ⟨⟨by decide +kernel, by decide +kernel⟩, List.mem_of_getElem? (i := 1195) (by decide +kernel), List.mem_of_getElem? (i := 1699) (by decide +kernel), List.mem_of_getElem? (i := 1700) (by decide +kernel)⟩
theorem lw_p100 : lw_okq (⟨"SightedMonthsModel", "dayBy", "(II)I"⟩, 57) := ⟨⟨by decide +kernel, by decide +kernel⟩, List.mem_of_getElem? (i := 1195) (by decide +kernel), List.mem_of_getElem? (i := 1720) (by decide +kernel), List.mem_of_getElem? (i := 1721) (by decide +kernel)⟩
theorem lw_p101 : lw_okq (⟨"SightedMonthsModel", "lengthBy", "(I)I"⟩, 57) := ⟨⟨by decide +kernel, by decide +kernel⟩, List.mem_of_getElem? (i := 1195) (by decide +kernel), List.mem_of_getElem? (i := 1724) (by decide +kernel), List.mem_of_getElem? (i := 1725) (by decide +kernel)⟩
theorem lw_p102 : lw_okq (⟨"SightedMonthsModel", "datesWith", "(III)I"⟩, 57) := ⟨⟨by decide +kernel, by decide +kernel⟩, List.mem_of_getElem? (i := 1195) (by decide +kernel), List.mem_of_getElem? (i := 1736) (by decide +kernel), List.mem_of_getElem? (i := 1737) (by decide +kernel)⟩
theorem lw_p103 : lw_okq (⟨"SightedMonthsModel", "fallsOn", "(III)I"⟩, 57) := ⟨⟨by decide +kernel, by decide +kernel⟩, List.mem_of_getElem? (i := 1195) (by decide +kernel), List.mem_of_getElem? (i := 1749) (by decide +kernel), List.mem_of_getElem? (i := 1750) (by decide +kernel)⟩
theorem lw_p104 : lw_okq (⟨"SightedMonthsModel", "follows", "(II)V"⟩, 57) := ⟨⟨by decide +kernel, by decide +kernel⟩, List.mem_of_getElem? (i := 1195) (by decide +kernel), List.mem_of_getElem? (i := 1761) (by decide +kernel), List.mem_of_getElem? (i := 1762) (by decide +kernel)⟩
theorem lw_p105 : lw_okq (⟨"SightedMonthsModel", "dueBy", "(I)I"⟩, 57) := ⟨⟨by decide +kernel, by decide +kernel⟩, List.mem_of_getElem? (i := 1195) (by decide +kernel), List.mem_of_getElem? (i := 1765) (by decide +kernel), List.mem_of_getElem? (i := 1766) (by decide +kernel)⟩
theorem lw_p106 : lw_okq (⟨"SightedMonthsModel", "monthOf", "(I)I"⟩, 57) := ⟨⟨by decide +kernel, by decide +kernel⟩, List.mem_of_getElem? (i := 1195) (by decide +kernel), List.mem_of_getElem? (i := 1769) (by decide +kernel), List.mem_of_getElem? (i := 1770) (by decide +kernel)⟩
theorem lw_p107 : lw_okq (⟨"SightedMonthsModel", "behindOf", "(I)I"⟩, 57) := ⟨⟨by decide +kernel, by decide +kernel⟩, List.mem_of_getElem? (i := 1195) (by decide +kernel), List.mem_of_getElem? (i := 1773) (by decide +kernel), List.mem_of_getElem? (i := 1774) (by decide +kernel)⟩
theorem lw_p108 : lw_okq (⟨"SightedMonthsModel", "nextTime", "(I)I"⟩, 57) := ⟨⟨by decide +kernel, by decide +kernel⟩, List.mem_of_getElem? (i := 1195) (by decide +kernel), List.mem_of_getElem? (i := 1777) (by decide +kernel), List.mem_of_getElem? (i := 1778) (by decide +kernel)⟩
theorem lw_p109 : lw_okq (⟨"SightedMonthsModel", "dueSpanOf", "(II)I"⟩, 57) := ⟨⟨by decide +kernel, by decide +kernel⟩, List.mem_of_getElem? (i := 1195) (by decide +kernel), List.mem_of_getElem? (i := 1793) (by decide +kernel), List.mem_of_getElem? (i := 1794) (by decide +kernel)⟩
theorem lw_p110 : lw_okq (⟨"SightedMonthsModel", "duesOn", "(II)I"⟩, 57) := ⟨⟨by decide +kernel, by decide +kernel⟩, List.mem_of_getElem? (i := 1195) (by decide +kernel), List.mem_of_getElem? (i := 1797) (by decide +kernel), List.mem_of_getElem? (i := 1798) (by decide +kernel)⟩
theorem lw_p111 : lw_okq (⟨"SightedMonthsModel", "compares", "(II)V"⟩, 57) := ⟨⟨by decide +kernel, by decide +kernel⟩, List.mem_of_getElem? (i := 1195) (by decide +kernel), List.mem_of_getElem? (i := 1817) (by decide +kernel), List.mem_of_getElem? (i := 1818) (by decide +kernel)⟩
def lw_privs_7 : List (MethodName × Nat) := [(⟨"SightedMonthsModel", "beginsOn", "(II)I"⟩, 57), (⟨"SightedMonthsModel", "countsWith", "(IIII)I"⟩, 57), (⟨"SightedMonthsModel", "isMonth", "(I)Z"⟩, 57), (⟨"SightedMonthsModel", "laysRanked", "(I)V"⟩, 57), (⟨"SightedMonthsModel", "dayBy", "(II)I"⟩, 57), (⟨"SightedMonthsModel", "lengthBy", "(I)I"⟩, 57), (⟨"SightedMonthsModel", "datesWith", "(III)I"⟩, 57), (⟨"SightedMonthsModel", "fallsOn", "(III)I"⟩, 57), (⟨"SightedMonthsModel", "follows", "(II)V"⟩, 57), (⟨"SightedMonthsModel", "dueBy", "(I)I"⟩, 57), (⟨"SightedMonthsModel", "monthOf", "(I)I"⟩, 57), (⟨"SightedMonthsModel", "behindOf", "(I)I"⟩, 57), (⟨"SightedMonthsModel", "nextTime", "(I)I"⟩, 57), (⟨"SightedMonthsModel", "dueSpanOf", "(II)I"⟩, 57), (⟨"SightedMonthsModel", "duesOn", "(II)I"⟩, 57), (⟨"SightedMonthsModel", "compares", "(II)V"⟩, 57)]
theorem lw_r7 : ∀ q ∈ lw_privs_7, lw_okq q := List.forall_mem_cons.mpr ⟨lw_p96, List.forall_mem_cons.mpr ⟨lw_p97, List.forall_mem_cons.mpr ⟨lw_p98, List.forall_mem_cons.mpr ⟨lw_p99, List.forall_mem_cons.mpr ⟨lw_p100, List.forall_mem_cons.mpr ⟨lw_p101, List.forall_mem_cons.mpr ⟨lw_p102, List.forall_mem_cons.mpr ⟨lw_p103, List.forall_mem_cons.mpr ⟨lw_p104, List.forall_mem_cons.mpr ⟨lw_p105, List.forall_mem_cons.mpr ⟨lw_p106, List.forall_mem_cons.mpr ⟨lw_p107, List.forall_mem_cons.mpr ⟨lw_p108, List.forall_mem_cons.mpr ⟨lw_p109, List.forall_mem_cons.mpr ⟨lw_p110, List.forall_mem_cons.mpr ⟨lw_p111, fun _ h => absurd h List.not_mem_nil⟩⟩⟩⟩⟩⟩⟩⟩⟩⟩⟩⟩⟩⟩⟩⟩
theorem lw_p112 : lw_okq (⟨"SightedMonthsModel", "ownBy", "(II)V"⟩, 57) := ⟨⟨by decide +kernel, by decide +kernel⟩, List.mem_of_getElem? (i := 1195) (by decide +kernel), List.mem_of_getElem? (i := 1825) (by decide +kernel), List.mem_of_getElem? (i := 1826) (by decide +kernel)⟩
theorem lw_p113 : lw_okq (⟨"SightedMonthsModel", "keepsOfficial", "()V"⟩, 57) := ⟨⟨by decide +kernel, by decide +kernel⟩, List.mem_of_getElem? (i := 1195) (by decide +kernel), List.mem_of_getElem? (i := 1833) (by decide +kernel), List.mem_of_getElem? (i := 1834) (by decide +kernel)⟩
theorem lw_p114 : lw_okq (⟨"SightedMonthsModel", "unlike", "()I"⟩, 57) := ⟨⟨by decide +kernel, by decide +kernel⟩, List.mem_of_getElem? (i := 1195) (by decide +kernel), List.mem_of_getElem? (i := 1837) (by decide +kernel), List.mem_of_getElem? (i := 1838) (by decide +kernel)⟩
theorem lw_p115 : lw_okq (⟨"SightedMonthsModel", "laysWorth", "(IZ)I"⟩, 57) := ⟨⟨by decide +kernel, by decide +kernel⟩, List.mem_of_getElem? (i := 1195) (by decide +kernel), List.mem_of_getElem? (i := 1857) (by decide +kernel), List.mem_of_getElem? (i := 1858) (by decide +kernel)⟩
theorem lw_p116 : lw_okq (⟨"SightedMonthsModel", "costOf", "(IIIZ)I"⟩, 57) := ⟨⟨by decide +kernel, by decide +kernel⟩, List.mem_of_getElem? (i := 1195) (by decide +kernel), List.mem_of_getElem? (i := 1861) (by decide +kernel), List.mem_of_getElem? (i := 1862) (by decide +kernel)⟩
theorem lw_p117 : lw_okq (⟨"SightedMonthsModel", "worthBy", "(IIII)I"⟩, 57) := ⟨⟨by decide +kernel, by decide +kernel⟩, List.mem_of_getElem? (i := 1195) (by decide +kernel), List.mem_of_getElem? (i := 1867) (by decide +kernel), List.mem_of_getElem? (i := 1868) (by decide +kernel)⟩
def lw_privs_8 : List (MethodName × Nat) := [(⟨"SightedMonthsModel", "ownBy", "(II)V"⟩, 57), (⟨"SightedMonthsModel", "keepsOfficial", "()V"⟩, 57), (⟨"SightedMonthsModel", "unlike", "()I"⟩, 57), (⟨"SightedMonthsModel", "laysWorth", "(IZ)I"⟩, 57), (⟨"SightedMonthsModel", "costOf", "(IIIZ)I"⟩, 57), (⟨"SightedMonthsModel", "worthBy", "(IIII)I"⟩, 57)]
theorem lw_r8 : ∀ q ∈ lw_privs_8, lw_okq q := List.forall_mem_cons.mpr ⟨lw_p112, List.forall_mem_cons.mpr ⟨lw_p113, List.forall_mem_cons.mpr ⟨lw_p114, List.forall_mem_cons.mpr ⟨lw_p115, List.forall_mem_cons.mpr ⟨lw_p116, List.forall_mem_cons.mpr ⟨lw_p117, fun _ h => absurd h List.not_mem_nil⟩⟩⟩⟩⟩⟩
def lw_privs : List (MethodName × Nat) := lw_privs_1 ++ (lw_privs_2 ++ (lw_privs_3 ++ (lw_privs_4 ++ (lw_privs_5 ++ (lw_privs_6 ++ (lw_privs_7 ++ (lw_privs_8)))))))
def lw_tbl : List Cond := k2_sels lw_privs ++ tables_1
theorem lw_privs_ok : ∀ q ∈ lw_privs, lw_okq q := by
  show ∀ q ∈ lw_privs_1 ++ (lw_privs_2 ++ (lw_privs_3 ++ (lw_privs_4 ++ (lw_privs_5 ++ (lw_privs_6 ++ (lw_privs_7 ++ (lw_privs_8))))))), lw_okq q
  exact List.forall_mem_append.mpr ⟨lw_r1, List.forall_mem_append.mpr ⟨lw_r2, List.forall_mem_append.mpr ⟨lw_r3, List.forall_mem_append.mpr ⟨lw_r4, List.forall_mem_append.mpr ⟨lw_r5, List.forall_mem_append.mpr ⟨lw_r6, List.forall_mem_append.mpr ⟨lw_r7, lw_r8⟩⟩⟩⟩⟩⟩⟩
end
section
def RX0 : String := "SightedMonths$Almanac"
def TX0 : u_T := fun k => match k with
  | 0 => ("SightedMonths$Almanac", "months", "I", false)
  | 1 => ("SightedMonths$Almanac", "full", "I", false)
  | 2 => ("SightedMonths$Almanac", "lean", "I", false)
  | 3 => ("SightedMonths$Almanac", "lines", "I", false)
  | 4 => ("SightedMonths$Almanac", "hasMoon", "Z", false)
  | 5 => ("SightedMonths$Almanac", "moonStart", "I", false)
  | 6 => ("SightedMonths$Almanac", "moonStep", "I", false)
  | 7 => ("SightedMonths$Almanac", "placeCount", "I", false)
  | 8 => ("SightedMonths$Almanac", "reportCount", "I", false)
  | 9 => ("SightedMonths$Almanac", "deedCount", "I", false)
  | 10 => ("SightedMonths$Almanac", "places", "[LSightedMonths$Place;", true)
  | 11 => ("SightedMonths$Almanac", "reports", "[LSightedMonths$Report;", true)
  | _ => ("SightedMonths$Almanac", "deeds", "[LSightedMonths$Deed;", true)
def tyX0 : Nat → FieldType := fun k => match k with
  | 0 => .int
  | 1 => .int
  | 2 => .int
  | 3 => .int
  | 4 => .boolean
  | 5 => .int
  | 6 => .int
  | 7 => .int
  | 8 => .int
  | 9 => .int
  | 10 => .array (.object "SightedMonths$Place")
  | 11 => .array (.object "SightedMonths$Report")
  | _ => .array (.object "SightedMonths$Deed")
abbrev wsX00 : List Cond := u_ws RX0 TX0 13
theorem nmX0 : ∀ a, a < 13 → ∀ b, b < 13 → a ≠ b → (TX0 a).2.1 ≠ (TX0 b).2.1 := by decide +kernel
theorem tyX0_ok : ∀ k, k < 13 → parseFieldDescriptor (TX0 k).2.2.1 = some (tyX0 k) := by decide +kernel
abbrev cX0_init : ByteArray := prog_2_method_1_code
def yX0_init : MethodName := ⟨RX0, "<init>", "()V"⟩
abbrev cX0_wipe : ByteArray := prog_2_method_2_code
def yX0_wipe : MethodName := ⟨RX0, "wipe", "()V"⟩
abbrev cX0_copyFrom : ByteArray := prog_2_method_3_code
def yX0_copyFrom : MethodName := ⟨RX0, "copyFrom", "(LSightedMonths$Almanac;)V"⟩
abbrev cX0_setMoon : ByteArray := prog_2_method_4_code
def yX0_setMoon : MethodName := ⟨RX0, "setMoon", "(II)V"⟩
abbrev cX0_addPlace : ByteArray := prog_2_method_5_code
def yX0_addPlace : MethodName := ⟨RX0, "addPlace", "(II)V"⟩
abbrev cX0_addReport : ByteArray := prog_2_method_6_code
def yX0_addReport : MethodName := ⟨RX0, "addReport", "(IIIII)V"⟩
abbrev cX0_addDeed : ByteArray := prog_2_method_7_code
def yX0_addDeed : MethodName := ⟨RX0, "addDeed", "(IIIZ)V"⟩
abbrev cX0_placeNamed : ByteArray := prog_2_method_8_code
def yX0_placeNamed : MethodName := ⟨RX0, "placeNamed", "(I)I"⟩
abbrev cX0_namesAhead : ByteArray := prog_2_method_9_code
def yX0_namesAhead : MethodName := ⟨RX0, "namesAhead", "(I)I"⟩
abbrev cX0_standing : ByteArray := prog_2_method_10_code
def yX0_standing : MethodName := ⟨RX0, "standing", "()I"⟩
abbrev cX0_standingOf : ByteArray := prog_2_method_11_code
def yX0_standingOf : MethodName := ⟨RX0, "standingOf", "(I)I"⟩
abbrev cX0_strikeAllBut : ByteArray := prog_2_method_12_code
def yX0_strikeAllBut : MethodName := ⟨RX0, "strikeAllBut", "(I)V"⟩
abbrev cX0_earlyOf : ByteArray := prog_2_method_13_code
def yX0_earlyOf : MethodName := ⟨RX0, "earlyOf", "(I)I"⟩
abbrev cX0_knownBits : ByteArray := prog_2_method_14_code
def yX0_knownBits : MethodName := ⟨RX0, "knownBits", "(I)I"⟩
abbrev cX0_latestNews : ByteArray := prog_2_method_15_code
def yX0_latestNews : MethodName := ⟨RX0, "latestNews", "(I)I"⟩
abbrev cX0_newsBehind : ByteArray := prog_2_method_16_code
def yX0_newsBehind : MethodName := ⟨RX0, "newsBehind", "(I)I"⟩
def RX1 : String := "SightedMonths$Court"
def TX1 : u_T := fun k => match k with
  | 0 => ("SightedMonths$Court", "frame", "LSightedMonths$Frame;", true)
  | 1 => ("SightedMonths$Court", "verdicts", "[I", true)
  | 2 => ("SightedMonths$Court", "queue", "[I", true)
  | 3 => ("SightedMonths$Court", "turns", "[J", true)
  | 4 => ("SightedMonths$Court", "begins", "[I", true)
  | 5 => ("SightedMonths$Court", "queueLength", "I", false)
  | _ => ("SightedMonths$Court", "takenBits", "I", false)
def tyX1 : Nat → FieldType := fun k => match k with
  | 0 => .object "SightedMonths$Frame"
  | 1 => .array .int
  | 2 => .array .int
  | 3 => .array .long
  | 4 => .array .int
  | 5 => .int
  | _ => .int
abbrev wsX10 : List Cond := u_ws RX1 TX1 7
theorem nmX1 : ∀ a, a < 7 → ∀ b, b < 7 → a ≠ b → (TX1 a).2.1 ≠ (TX1 b).2.1 := by decide +kernel
theorem tyX1_ok : ∀ k, k < 7 → parseFieldDescriptor (TX1 k).2.2.1 = some (tyX1 k) := by decide +kernel
abbrev cX1_init : ByteArray := prog_3_method_1_code
def yX1_init : MethodName := ⟨RX1, "<init>", "()V"⟩
abbrev cX1_judge : ByteArray := prog_3_method_2_code
def yX1_judge : MethodName := ⟨RX1, "judge", "(LSightedMonths$Almanac;I)V"⟩
abbrev cX1_lineUp : ByteArray := prog_3_method_3_code
def yX1_lineUp : MethodName := ⟨RX1, "lineUp", "(LSightedMonths$Almanac;I)V"⟩
abbrev cX1_insert : ByteArray := prog_3_method_4_code
def yX1_insert : MethodName := ⟨RX1, "insert", "(IJ)V"⟩
abbrev cX1_turnOf : ByteArray := prog_3_method_5_code
def yX1_turnOf : MethodName := ⟨RX1, "turnOf", "(LSightedMonths$Almanac;I)J"⟩
abbrev cX1_verdictOn : ByteArray := prog_3_method_6_code
def yX1_verdictOn : MethodName := ⟨RX1, "verdictOn", "(LSightedMonths$Almanac;LSightedMonths$Report;)I"⟩
abbrev cX1_lengthOf : ByteArray := prog_3_method_7_code
def yX1_lengthOf : MethodName := ⟨RX1, "lengthOf", "(I)I"⟩
def RX2 : String := "SightedMonths$Deed"
def TX2 : u_T := fun k => match k with
  | 0 => ("SightedMonths$Deed", "month", "I", false)
  | 1 => ("SightedMonths$Deed", "day", "I", false)
  | 2 => ("SightedMonths$Deed", "length", "I", false)
  | _ => ("SightedMonths$Deed", "inDays", "Z", false)
def tyX2 : Nat → FieldType := fun k => match k with
  | 0 => .int
  | 1 => .int
  | 2 => .int
  | _ => .boolean
abbrev wsX20 : List Cond := u_ws RX2 TX2 4
theorem nmX2 : ∀ a, a < 4 → ∀ b, b < 4 → a ≠ b → (TX2 a).2.1 ≠ (TX2 b).2.1 := by decide +kernel
theorem tyX2_ok : ∀ k, k < 4 → parseFieldDescriptor (TX2 k).2.2.1 = some (tyX2 k) := by decide +kernel
abbrev cX2_init : ByteArray := prog_4_method_1_code
def yX2_init : MethodName := ⟨RX2, "<init>", "()V"⟩
abbrev cX2_endAnchor : ByteArray := prog_4_method_2_code
def yX2_endAnchor : MethodName := ⟨RX2, "endAnchor", "()I"⟩
abbrev cX2_endOffset : ByteArray := prog_4_method_3_code
def yX2_endOffset : MethodName := ⟨RX2, "endOffset", "()I"⟩
def RX3 : String := "SightedMonths$Frame"
def TX3 : u_T := fun k => match k with
  | 0 => ("SightedMonths$Frame", "months", "I", false)
  | 1 => ("SightedMonths$Frame", "full", "I", false)
  | 2 => ("SightedMonths$Frame", "lean", "I", false)
  | 3 => ("SightedMonths$Frame", "allowed", "[I", true)
  | _ => ("SightedMonths$Frame", "onward", "[I", true)
def tyX3 : Nat → FieldType := fun k => match k with
  | 0 => .int
  | 1 => .int
  | 2 => .int
  | 3 => .array .int
  | _ => .array .int
abbrev wsX30 : List Cond := u_ws RX3 TX3 5
theorem nmX3 : ∀ a, a < 5 → ∀ b, b < 5 → a ≠ b → (TX3 a).2.1 ≠ (TX3 b).2.1 := by decide +kernel
theorem tyX3_ok : ∀ k, k < 5 → parseFieldDescriptor (TX3 k).2.2.1 = some (tyX3 k) := by decide +kernel
abbrev cX3_init : ByteArray := prog_5_method_1_code
def yX3_init : MethodName := ⟨RX3, "<init>", "()V"⟩
abbrev cX3_open : ByteArray := prog_5_method_2_code
def yX3_open : MethodName := ⟨RX3, "open", "(LSightedMonths$Almanac;)V"⟩
abbrev cX3_rightFor : ByteArray := prog_5_method_3_code
def yX3_rightFor : MethodName := ⟨RX3, "rightFor", "(LSightedMonths$Report;)I"⟩
abbrev cX3_narrow : ByteArray := prog_5_method_4_code
def yX3_narrow : MethodName := ⟨RX3, "narrow", "(LSightedMonths$Report;)V"⟩
abbrev cX3_allows : ByteArray := prog_5_method_5_code
def yX3_allows : MethodName := ⟨RX3, "allows", "(II)Z"⟩
abbrev cX3_fits : ByteArray := prog_5_method_6_code
def yX3_fits : MethodName := ⟨RX3, "fits", "()Z"⟩
abbrev cX3_beginsInto : ByteArray := prog_5_method_7_code
def yX3_beginsInto : MethodName := ⟨RX3, "beginsInto", "([I)V"⟩
def RX4 : String := "SightedMonths$History"
def TX4 : u_T := fun k => match k with
  | 0 => ("SightedMonths$History", "since", "[I", true)
  | 1 => ("SightedMonths$History", "begins", "[I", true)
  | _ => ("SightedMonths$History", "eras", "I", false)
def tyX4 : Nat → FieldType := fun k => match k with
  | 0 => .array .int
  | 1 => .array .int
  | _ => .int
abbrev wsX40 : List Cond := u_ws RX4 TX4 3
theorem nmX4 : ∀ a, a < 3 → ∀ b, b < 3 → a ≠ b → (TX4 a).2.1 ≠ (TX4 b).2.1 := by decide +kernel
theorem tyX4_ok : ∀ k, k < 3 → parseFieldDescriptor (TX4 k).2.2.1 = some (tyX4 k) := by decide +kernel
abbrev cX4_init : ByteArray := prog_6_method_1_code
def yX4_init : MethodName := ⟨RX4, "<init>", "()V"⟩
abbrev cX4_fill : ByteArray := prog_6_method_2_code
def yX4_fill : MethodName := ⟨RX4, "fill", "(LSightedMonths$Almanac;LSightedMonths$Court;)V"⟩
abbrev cX4_changesAt : ByteArray := prog_6_method_3_code
def yX4_changesAt : MethodName := ⟨RX4, "changesAt", "(II)Z"⟩
abbrev cX4_changesOf : ByteArray := prog_6_method_4_code
def yX4_changesOf : MethodName := ⟨RX4, "changesOf", "(I)I"⟩
abbrev cX4_lastChangeOf : ByteArray := prog_6_method_5_code
def yX4_lastChangeOf : MethodName := ⟨RX4, "lastChangeOf", "(I)I"⟩
def RX5 : String := "SightedMonths$Place"
def TX5 : u_T := fun k => match k with
  | 0 => ("SightedMonths$Place", "name", "I", false)
  | _ => ("SightedMonths$Place", "trust", "I", false)
def tyX5 : Nat → FieldType := fun k => match k with
  | 0 => .int
  | _ => .int
abbrev wsX50 : List Cond := u_ws RX5 TX5 2
theorem nmX5 : ∀ a, a < 2 → ∀ b, b < 2 → a ≠ b → (TX5 a).2.1 ≠ (TX5 b).2.1 := by decide +kernel
theorem tyX5_ok : ∀ k, k < 2 → parseFieldDescriptor (TX5 k).2.2.1 = some (tyX5 k) := by decide +kernel
abbrev cX5_init : ByteArray := prog_7_method_1_code
def yX5_init : MethodName := ⟨RX5, "<init>", "()V"⟩
def RX6 : String := "SightedMonths$Reader"
def TX6 : u_T := fun k => match k with
  | 0 => ("SightedMonths$Reader", "tape", "LSightedMonths$Tape;", true)
  | 1 => ("SightedMonths$Reader", "draft", "LSightedMonths$Almanac;", false)
  | 2 => ("SightedMonths$Reader", "faultKind", "I", false)
  | 3 => ("SightedMonths$Reader", "faultPlace", "I", false)
  | 4 => ("SightedMonths$Reader", "token", "I", false)
  | 5 => ("SightedMonths$Reader", "start", "I", false)
  | _ => ("SightedMonths$Reader", "stop", "I", false)
def tyX6 : Nat → FieldType := fun k => match k with
  | 0 => .object "SightedMonths$Tape"
  | 1 => .object "SightedMonths$Almanac"
  | 2 => .int
  | 3 => .int
  | 4 => .int
  | 5 => .int
  | _ => .int
abbrev wsX60 : List Cond := u_ws RX6 TX6 7
theorem nmX6 : ∀ a, a < 7 → ∀ b, b < 7 → a ≠ b → (TX6 a).2.1 ≠ (TX6 b).2.1 := by decide +kernel
theorem tyX6_ok : ∀ k, k < 7 → parseFieldDescriptor (TX6 k).2.2.1 = some (tyX6 k) := by decide +kernel
abbrev cX6_init : ByteArray := prog_8_method_1_code
def yX6_init : MethodName := ⟨RX6, "<init>", "()V"⟩
abbrev cX6_read : ByteArray := prog_8_method_2_code
def yX6_read : MethodName := ⟨RX6, "read", "()V"⟩
abbrev cX6_readLine : ByteArray := prog_8_method_3_code
def yX6_readLine : MethodName := ⟨RX6, "readLine", "()V"⟩
abbrev cX6_readFirst : ByteArray := prog_8_method_4_code
def yX6_readFirst : MethodName := ⟨RX6, "readFirst", "()V"⟩
abbrev cX6_readMoon : ByteArray := prog_8_method_5_code
def yX6_readMoon : MethodName := ⟨RX6, "readMoon", "()V"⟩
abbrev cX6_readPlace : ByteArray := prog_8_method_6_code
def yX6_readPlace : MethodName := ⟨RX6, "readPlace", "()V"⟩
abbrev cX6_readReport : ByteArray := prog_8_method_7_code
def yX6_readReport : MethodName := ⟨RX6, "readReport", "(I)V"⟩
abbrev cX6_readDeed : ByteArray := prog_8_method_8_code
def yX6_readDeed : MethodName := ⟨RX6, "readDeed", "()V"⟩
abbrev cX6_blame : ByteArray := prog_8_method_9_code
def yX6_blame : MethodName := ⟨RX6, "blame", "(II)V"⟩
abbrev cX6_expect : ByteArray := prog_8_method_10_code
def yX6_expect : MethodName := ⟨RX6, "expect", "(ZI)V"⟩
abbrev cX6_passHead : ByteArray := prog_8_method_11_code
def yX6_passHead : MethodName := ⟨RX6, "passHead", "(Z)V"⟩
abbrev cX6_passWord : ByteArray := prog_8_method_12_code
def yX6_passWord : MethodName := ⟨RX6, "passWord", "(Ljava/lang/String;)V"⟩
abbrev cX6_passSign : ByteArray := prog_8_method_13_code
def yX6_passSign : MethodName := ⟨RX6, "passSign", "()V"⟩
abbrev cX6_passNumber : ByteArray := prog_8_method_14_code
def yX6_passNumber : MethodName := ⟨RX6, "passNumber", "(II)I"⟩
abbrev cX6_passName : ByteArray := prog_8_method_15_code
def yX6_passName : MethodName := ⟨RX6, "passName", "(Z)I"⟩
abbrev cX6_nameHere : ByteArray := prog_8_method_16_code
def yX6_nameHere : MethodName := ⟨RX6, "nameHere", "()I"⟩
abbrev cX6_valueHere : ByteArray := prog_8_method_17_code
def yX6_valueHere : MethodName := ⟨RX6, "valueHere", "()I"⟩
abbrev cX6_isWord : ByteArray := prog_8_method_18_code
def yX6_isWord : MethodName := ⟨RX6, "isWord", "(Ljava/lang/String;)Z"⟩
abbrev cX6_step : ByteArray := prog_8_method_19_code
def yX6_step : MethodName := ⟨RX6, "step", "()V"⟩
abbrev cX6_byteAt : ByteArray := prog_8_method_20_code
def yX6_byteAt : MethodName := ⟨RX6, "byteAt", "(I)I"⟩
abbrev cX6_isLetter : ByteArray := prog_8_method_21_code
def yX6_isLetter : MethodName := ⟨RX6, "isLetter", "(I)Z"⟩
abbrev cX6_isDigit : ByteArray := prog_8_method_22_code
def yX6_isDigit : MethodName := ⟨RX6, "isDigit", "(I)Z"⟩
abbrev cX6_isBlank : ByteArray := prog_8_method_23_code
def yX6_isBlank : MethodName := ⟨RX6, "isBlank", "(I)Z"⟩
def RX7 : String := "SightedMonths$Report"
def TX7 : u_T := fun k => match k with
  | 0 => ("SightedMonths$Report", "place", "I", false)
  | 1 => ("SightedMonths$Report", "kind", "I", false)
  | 2 => ("SightedMonths$Report", "month", "I", false)
  | 3 => ("SightedMonths$Report", "day", "I", false)
  | 4 => ("SightedMonths$Report", "known", "I", false)
  | _ => ("SightedMonths$Report", "struck", "Z", false)
def tyX7 : Nat → FieldType := fun k => match k with
  | 0 => .int
  | 1 => .int
  | 2 => .int
  | 3 => .int
  | 4 => .int
  | _ => .boolean
abbrev wsX70 : List Cond := u_ws RX7 TX7 6
theorem nmX7 : ∀ a, a < 6 → ∀ b, b < 6 → a ≠ b → (TX7 a).2.1 ≠ (TX7 b).2.1 := by decide +kernel
theorem tyX7_ok : ∀ k, k < 6 → parseFieldDescriptor (TX7 k).2.2.1 = some (tyX7 k) := by decide +kernel
abbrev cX7_init : ByteArray := prog_9_method_1_code
def yX7_init : MethodName := ⟨RX7, "<init>", "()V"⟩
abbrev cX7_isKnownBy : ByteArray := prog_9_method_2_code
def yX7_isKnownBy : MethodName := ⟨RX7, "isKnownBy", "(I)Z"⟩
def RX8 : String := "SightedMonths$Search"
def TX8 : u_T := fun k => match k with
  | 0 => ("SightedMonths$Search", "costs", "[I", true)
  | 1 => ("SightedMonths$Search", "leasts", "[I", true)
  | 2 => ("SightedMonths$Search", "months", "I", false)
  | 3 => ("SightedMonths$Search", "full", "I", false)
  | _ => ("SightedMonths$Search", "lean", "I", false)
def tyX8 : Nat → FieldType := fun k => match k with
  | 0 => .array .int
  | 1 => .array .int
  | 2 => .int
  | 3 => .int
  | _ => .int
abbrev wsX80 : List Cond := u_ws RX8 TX8 5
theorem nmX8 : ∀ a, a < 5 → ∀ b, b < 5 → a ≠ b → (TX8 a).2.1 ≠ (TX8 b).2.1 := by decide +kernel
theorem tyX8_ok : ∀ k, k < 5 → parseFieldDescriptor (TX8 k).2.2.1 = some (tyX8 k) := by decide +kernel
abbrev cX8_init : ByteArray := prog_10_method_1_code
def yX8_init : MethodName := ⟨RX8, "<init>", "()V"⟩
abbrev cX8_wipe : ByteArray := prog_10_method_2_code
def yX8_wipe : MethodName := ⟨RX8, "wipe", "()V"⟩
abbrev cX8_charge : ByteArray := prog_10_method_3_code
def yX8_charge : MethodName := ⟨RX8, "charge", "(III)V"⟩
abbrev cX8_run : ByteArray := prog_10_method_4_code
def yX8_run : MethodName := ⟨RX8, "run", "(LSightedMonths$Frame;)V"⟩
abbrev cX8_fillCell : ByteArray := prog_10_method_5_code
def yX8_fillCell : MethodName := ⟨RX8, "fillCell", "(II)V"⟩
abbrev cX8_withFull : ByteArray := prog_10_method_6_code
def yX8_withFull : MethodName := ⟨RX8, "withFull", "(III)I"⟩
abbrev cX8_withLean : ByteArray := prog_10_method_7_code
def yX8_withLean : MethodName := ⟨RX8, "withLean", "(III)I"⟩
abbrev cX8_least : ByteArray := prog_10_method_8_code
def yX8_least : MethodName := ⟨RX8, "least", "()I"⟩
abbrev cX8_fullBits : ByteArray := prog_10_method_9_code
def yX8_fullBits : MethodName := ⟨RX8, "fullBits", "()I"⟩
def RX9 : String := "SightedMonths$Tally"
def TX9 : u_T := fun k => match k with
  | 0 => ("SightedMonths$Tally", "before", "[I", true)
  | 1 => ("SightedMonths$Tally", "behind", "[I", true)
  | 2 => ("SightedMonths$Tally", "starts", "[I", true)
  | 3 => ("SightedMonths$Tally", "months", "I", false)
  | 4 => ("SightedMonths$Tally", "full", "I", false)
  | _ => ("SightedMonths$Tally", "lean", "I", false)
def tyX9 : Nat → FieldType := fun k => match k with
  | 0 => .array .int
  | 1 => .array .int
  | 2 => .array .int
  | 3 => .int
  | 4 => .int
  | _ => .int
abbrev wsX90 : List Cond := u_ws RX9 TX9 6
theorem nmX9 : ∀ a, a < 6 → ∀ b, b < 6 → a ≠ b → (TX9 a).2.1 ≠ (TX9 b).2.1 := by decide +kernel
theorem tyX9_ok : ∀ k, k < 6 → parseFieldDescriptor (TX9 k).2.2.1 = some (tyX9 k) := by decide +kernel
abbrev cX9_init : ByteArray := prog_11_method_1_code
def yX9_init : MethodName := ⟨RX9, "<init>", "()V"⟩
abbrev cX9_fill : ByteArray := prog_11_method_2_code
def yX9_fill : MethodName := ⟨RX9, "fill", "(LSightedMonths$Frame;)V"⟩
abbrev cX9_countBefore : ByteArray := prog_11_method_3_code
def yX9_countBefore : MethodName := ⟨RX9, "countBefore", "(LSightedMonths$Frame;)V"⟩
abbrev cX9_takeOnWithFull : ByteArray := prog_11_method_4_code
def yX9_takeOnWithFull : MethodName := ⟨RX9, "takeOnWithFull", "(II)V"⟩
abbrev cX9_takeOnWithLean : ByteArray := prog_11_method_5_code
def yX9_takeOnWithLean : MethodName := ⟨RX9, "takeOnWithLean", "(II)V"⟩
abbrev cX9_countBehind : ByteArray := prog_11_method_6_code
def yX9_countBehind : MethodName := ⟨RX9, "countBehind", "()V"⟩
abbrev cX9_countStarts : ByteArray := prog_11_method_7_code
def yX9_countStarts : MethodName := ⟨RX9, "countStarts", "()V"⟩
abbrev cX9_withFull : ByteArray := prog_11_method_8_code
def yX9_withFull : MethodName := ⟨RX9, "withFull", "(III)I"⟩
abbrev cX9_withLean : ByteArray := prog_11_method_9_code
def yX9_withLean : MethodName := ⟨RX9, "withLean", "(III)I"⟩
abbrev cX9_total : ByteArray := prog_11_method_10_code
def yX9_total : MethodName := ⟨RX9, "total", "()I"⟩
abbrev cX9_onDay : ByteArray := prog_11_method_11_code
def yX9_onDay : MethodName := ⟨RX9, "onDay", "(II)I"⟩
abbrev cX9_onWeekday : ByteArray := prog_11_method_12_code
def yX9_onWeekday : MethodName := ⟨RX9, "onWeekday", "(III)I"⟩
abbrev cX9_bound : ByteArray := prog_11_method_13_code
def yX9_bound : MethodName := ⟨RX9, "bound", "(IZ)I"⟩
abbrev cX9_mostLeft : ByteArray := prog_11_method_14_code
def yX9_mostLeft : MethodName := ⟨RX9, "mostLeft", "(I)I"⟩
abbrev cX9_leanIn : ByteArray := prog_11_method_15_code
def yX9_leanIn : MethodName := ⟨RX9, "leanIn", "(I)I"⟩
abbrev cX9_dated : ByteArray := prog_11_method_16_code
def yX9_dated : MethodName := ⟨RX9, "dated", "(III)I"⟩
abbrev cX9_beginOf : ByteArray := prog_11_method_17_code
def yX9_beginOf : MethodName := ⟨RX9, "beginOf", "(II)I"⟩
abbrev cX9_indexOf : ByteArray := prog_11_method_18_code
def yX9_indexOf : MethodName := ⟨RX9, "indexOf", "(I)I"⟩
def RX10 : String := "SightedMonths$Tape"
def TX10 : u_T := fun k => match k with
  | 0 => ("SightedMonths$Tape", "bytes", "[B", true)
  | _ => ("SightedMonths$Tape", "length", "I", false)
def tyX10 : Nat → FieldType := fun k => match k with
  | 0 => .array .byte
  | _ => .int
abbrev wsX100 : List Cond := u_ws RX10 TX10 2
theorem nmX10 : ∀ a, a < 2 → ∀ b, b < 2 → a ≠ b → (TX10 a).2.1 ≠ (TX10 b).2.1 := by decide +kernel
theorem tyX10_ok : ∀ k, k < 2 → parseFieldDescriptor (TX10 k).2.2.1 = some (tyX10 k) := by decide +kernel
abbrev cX10_init : ByteArray := prog_12_method_1_code
def yX10_init : MethodName := ⟨RX10, "<init>", "()V"⟩
abbrev cX10_put : ByteArray := prog_12_method_2_code
def yX10_put : MethodName := ⟨RX10, "put", "(I)V"⟩
def RX11 : String := "SightedMonths"
def TX11 : u_T := fun k => match k with
  | 0 => ("SightedMonths", "reader", "LSightedMonths$Reader;", true)
  | 1 => ("SightedMonths", "almanac", "LSightedMonths$Almanac;", false)
  | 2 => ("SightedMonths", "spare", "LSightedMonths$Almanac;", true)
  | 3 => ("SightedMonths", "freeFrame", "LSightedMonths$Frame;", true)
  | 4 => ("SightedMonths", "court", "LSightedMonths$Court;", true)
  | 5 => ("SightedMonths", "otherCourt", "LSightedMonths$Court;", true)
  | 6 => ("SightedMonths", "tally", "LSightedMonths$Tally;", true)
  | 7 => ("SightedMonths", "search", "LSightedMonths$Search;", true)
  | 8 => ("SightedMonths", "history", "LSightedMonths$History;", true)
  | 9 => ("SightedMonths", "kept", "[I", true)
  | 10 => ("SightedMonths", "out", "[B", true)
  | 11 => ("SightedMonths", "outLength", "I", false)
  | 12 => ("SightedMonths", "courtStands", "Z", false)
  | 13 => ("SightedMonths", "courtNews", "I", false)
  | 14 => ("SightedMonths", "tallyStands", "Z", false)
  | _ => ("SightedMonths", "historyStands", "Z", false)
def tyX11 : Nat → FieldType := fun k => match k with
  | 0 => .object "SightedMonths$Reader"
  | 1 => .object "SightedMonths$Almanac"
  | 2 => .object "SightedMonths$Almanac"
  | 3 => .object "SightedMonths$Frame"
  | 4 => .object "SightedMonths$Court"
  | 5 => .object "SightedMonths$Court"
  | 6 => .object "SightedMonths$Tally"
  | 7 => .object "SightedMonths$Search"
  | 8 => .object "SightedMonths$History"
  | 9 => .array .int
  | 10 => .array .byte
  | 11 => .int
  | 12 => .boolean
  | 13 => .int
  | 14 => .boolean
  | _ => .boolean
abbrev wsX110 : List Cond := u_ws RX11 TX11 16
theorem nmX11 : ∀ a, a < 16 → ∀ b, b < 16 → a ≠ b → (TX11 a).2.1 ≠ (TX11 b).2.1 := by decide +kernel
theorem tyX11_ok : ∀ k, k < 16 → parseFieldDescriptor (TX11 k).2.2.1 = some (tyX11 k) := by decide +kernel
abbrev cX11_init : ByteArray := prog_1_method_1_code
def yX11_init : MethodName := ⟨RX11, "<init>", "()V"⟩
abbrev cX11_feed : ByteArray := prog_1_method_2_code
def yX11_feed : MethodName := ⟨RX11, "feed", "(IIIII)I"⟩
abbrev cX11_end : ByteArray := prog_1_method_3_code
def yX11_end : MethodName := ⟨RX11, "end", "(I)I"⟩
abbrev cX11_almanac : ByteArray := prog_1_method_4_code
def yX11_almanac : MethodName := ⟨RX11, "almanac", "()I"⟩
abbrev cX11_fault : ByteArray := prog_1_method_5_code
def yX11_fault : MethodName := ⟨RX11, "fault", "(I)I"⟩
abbrev cX11_count : ByteArray := prog_1_method_6_code
def yX11_count : MethodName := ⟨RX11, "count", "(I)I"⟩
abbrev cX11_place : ByteArray := prog_1_method_7_code
def yX11_place : MethodName := ⟨RX11, "place", "(II)I"⟩
abbrev cX11_report : ByteArray := prog_1_method_8_code
def yX11_report : MethodName := ⟨RX11, "report", "(II)I"⟩
abbrev cX11_deed : ByteArray := prog_1_method_9_code
def yX11_deed : MethodName := ⟨RX11, "deed", "(II)I"⟩
abbrev cX11_early : ByteArray := prog_1_method_10_code
def yX11_early : MethodName := ⟨RX11, "early", "(I)I"⟩
abbrev cX11_judged : ByteArray := prog_1_method_11_code
def yX11_judged : MethodName := ⟨RX11, "judged", "(II)I"⟩
abbrev cX11_taken : ByteArray := prog_1_method_12_code
def yX11_taken : MethodName := ⟨RX11, "taken", "(I)I"⟩
abbrev cX11_order : ByteArray := prog_1_method_13_code
def yX11_order : MethodName := ⟨RX11, "order", "(II)I"⟩
abbrev cX11_against : ByteArray := prog_1_method_14_code
def yX11_against : MethodName := ⟨RX11, "against", "(II)I"⟩
abbrev cX11_blind : ByteArray := prog_1_method_15_code
def yX11_blind : MethodName := ⟨RX11, "blind", "(II)I"⟩
abbrev cX11_later : ByteArray := prog_1_method_16_code
def yX11_later : MethodName := ⟨RX11, "later", "(I)I"⟩
abbrev cX11_both : ByteArray := prog_1_method_17_code
def yX11_both : MethodName := ⟨RX11, "both", "(II)I"⟩
abbrev cX11_trusted : ByteArray := prog_1_method_18_code
def yX11_trusted : MethodName := ⟨RX11, "trusted", "(II)I"⟩
abbrev cX11_hang : ByteArray := prog_1_method_19_code
def yX11_hang : MethodName := ⟨RX11, "hang", "(II)I"⟩
abbrev cX11_own : ByteArray := prog_1_method_20_code
def yX11_own : MethodName := ⟨RX11, "own", "(III)I"⟩
abbrev cX11_apart : ByteArray := prog_1_method_21_code
def yX11_apart : MethodName := ⟨RX11, "apart", "(III)I"⟩
abbrev cX11_ways : ByteArray := prog_1_method_22_code
def yX11_ways : MethodName := ⟨RX11, "ways", "(I)I"⟩
abbrev cX11_span : ByteArray := prog_1_method_23_code
def yX11_span : MethodName := ⟨RX11, "span", "(III)I"⟩
abbrev cX11_sure : ByteArray := prog_1_method_24_code
def yX11_sure : MethodName := ⟨RX11, "sure", "(I)I"⟩
abbrev cX11_could : ByteArray := prog_1_method_25_code
def yX11_could : MethodName := ⟨RX11, "could", "(III)I"⟩
abbrev cX11_lean : ByteArray := prog_1_method_26_code
def yX11_lean : MethodName := ⟨RX11, "lean", "(II)I"⟩
abbrev cX11_ranked : ByteArray := prog_1_method_27_code
def yX11_ranked : MethodName := ⟨RX11, "ranked", "(III)I"⟩
abbrev cX11_rank : ByteArray := prog_1_method_28_code
def yX11_rank : MethodName := ⟨RX11, "rank", "(II)I"⟩
abbrev cX11_drawn : ByteArray := prog_1_method_29_code
def yX11_drawn : MethodName := ⟨RX11, "drawn", "(II)I"⟩
abbrev cX11_dates : ByteArray := prog_1_method_30_code
def yX11_dates : MethodName := ⟨RX11, "dates", "(II)I"⟩
abbrev cX11_likely : ByteArray := prog_1_method_31_code
def yX11_likely : MethodName := ⟨RX11, "likely", "(II)I"⟩
abbrev cX11_telling : ByteArray := prog_1_method_32_code
def yX11_telling : MethodName := ⟨RX11, "telling", "(I)I"⟩
abbrev cX11_weekday : ByteArray := prog_1_method_33_code
def yX11_weekday : MethodName := ⟨RX11, "weekday", "(IIII)I"⟩
abbrev cX11_nearest : ByteArray := prog_1_method_34_code
def yX11_nearest : MethodName := ⟨RX11, "nearest", "(II)I"⟩
abbrev cX11_backed : ByteArray := prog_1_method_35_code
def yX11_backed : MethodName := ⟨RX11, "backed", "(II)I"⟩
abbrev cX11_begin : ByteArray := prog_1_method_36_code
def yX11_begin : MethodName := ⟨RX11, "begin", "(II)I"⟩
abbrev cX11_lasts : ByteArray := prog_1_method_37_code
def yX11_lasts : MethodName := ⟨RX11, "lasts", "(II)I"⟩
abbrev cX11_day : ByteArray := prog_1_method_38_code
def yX11_day : MethodName := ⟨RX11, "day", "(III)I"⟩
abbrev cX11_date : ByteArray := prog_1_method_39_code
def yX11_date : MethodName := ⟨RX11, "date", "(II)I"⟩
abbrev cX11_moved : ByteArray := prog_1_method_40_code
def yX11_moved : MethodName := ⟨RX11, "moved", "(III)I"⟩
abbrev cX11_shifts : ByteArray := prog_1_method_41_code
def yX11_shifts : MethodName := ⟨RX11, "shifts", "(I)I"⟩
abbrev cX11_settled : ByteArray := prog_1_method_42_code
def yX11_settled : MethodName := ⟨RX11, "settled", "(I)I"⟩
abbrev cX11_tell : ByteArray := prog_1_method_43_code
def yX11_tell : MethodName := ⟨RX11, "tell", "(I)I"⟩
abbrev cX11_octet : ByteArray := prog_1_method_44_code
def yX11_octet : MethodName := ⟨RX11, "octet", "(I)I"⟩
abbrev cX11_due : ByteArray := prog_1_method_45_code
def yX11_due : MethodName := ⟨RX11, "due", "(II)I"⟩
abbrev cX11_dueSpan : ByteArray := prog_1_method_46_code
def yX11_dueSpan : MethodName := ⟨RX11, "dueSpan", "(III)I"⟩
abbrev cX11_dueOn : ByteArray := prog_1_method_47_code
def yX11_dueOn : MethodName := ⟨RX11, "dueOn", "(III)I"⟩
abbrev cX11_redated : ByteArray := prog_1_method_48_code
def yX11_redated : MethodName := ⟨RX11, "redated", "(I)I"⟩
abbrev cX11_longer : ByteArray := prog_1_method_49_code
def yX11_longer : MethodName := ⟨RX11, "longer", "(III)I"⟩
abbrev cX11_days : ByteArray := prog_1_method_50_code
def yX11_days : MethodName := ⟨RX11, "days", "(II)I"⟩
abbrev cX11_reports : ByteArray := prog_1_method_51_code
def yX11_reports : MethodName := ⟨RX11, "reports", "(IIIII)I"⟩
abbrev cX11_strikes : ByteArray := prog_1_method_52_code
def yX11_strikes : MethodName := ⟨RX11, "strikes", "(I)I"⟩
abbrev cX11_trusts : ByteArray := prog_1_method_53_code
def yX11_trusts : MethodName := ⟨RX11, "trusts", "(II)I"⟩
abbrev cX11_moon : ByteArray := prog_1_method_54_code
def yX11_moon : MethodName := ⟨RX11, "moon", "(II)I"⟩
abbrev cX11_runs : ByteArray := prog_1_method_55_code
def yX11_runs : MethodName := ⟨RX11, "runs", "(II)I"⟩
abbrev cX11_isTold : ByteArray := prog_1_method_56_code
def yX11_isTold : MethodName := ⟨RX11, "isTold", "()Z"⟩
abbrev cX11_hasTime : ByteArray := prog_1_method_57_code
def yX11_hasTime : MethodName := ⟨RX11, "hasTime", "(I)Z"⟩
abbrev cX11_hasMonth : ByteArray := prog_1_method_58_code
def yX11_hasMonth : MethodName := ⟨RX11, "hasMonth", "(III)Z"⟩
abbrev cX11_hasDate : ByteArray := prog_1_method_59_code
def yX11_hasDate : MethodName := ⟨RX11, "hasDate", "(II)Z"⟩
abbrev cX11_hasPlace : ByteArray := prog_1_method_60_code
def yX11_hasPlace : MethodName := ⟨RX11, "hasPlace", "(I)Z"⟩
abbrev cX11_hasReport : ByteArray := prog_1_method_61_code
def yX11_hasReport : MethodName := ⟨RX11, "hasReport", "(I)Z"⟩
abbrev cX11_hasDeed : ByteArray := prog_1_method_62_code
def yX11_hasDeed : MethodName := ⟨RX11, "hasDeed", "(I)Z"⟩
abbrev cX11_isEither : ByteArray := prog_1_method_63_code
def yX11_isEither : MethodName := ⟨RX11, "isEither", "(I)Z"⟩
abbrev cX11_forget : ByteArray := prog_1_method_64_code
def yX11_forget : MethodName := ⟨RX11, "forget", "()V"⟩
abbrev cX11_courtBy : ByteArray := prog_1_method_65_code
def yX11_courtBy : MethodName := ⟨RX11, "courtBy", "(I)LSightedMonths$Court;"⟩
abbrev cX11_tallyBy : ByteArray := prog_1_method_66_code
def yX11_tallyBy : MethodName := ⟨RX11, "tallyBy", "(I)LSightedMonths$Tally;"⟩
abbrev cX11_historyNow : ByteArray := prog_1_method_67_code
def yX11_historyNow : MethodName := ⟨RX11, "historyNow", "()LSightedMonths$History;"⟩
abbrev cX11_canBothBe : ByteArray := prog_1_method_68_code
def yX11_canBothBe : MethodName := ⟨RX11, "canBothBe", "(II)Z"⟩
abbrev cX11_judgeAlone : ByteArray := prog_1_method_69_code
def yX11_judgeAlone : MethodName := ⟨RX11, "judgeAlone", "(II)V"⟩
abbrev cX11_unlikeBegins : ByteArray := prog_1_method_70_code
def yX11_unlikeBegins : MethodName := ⟨RX11, "unlikeBegins", "([I[I)I"⟩
abbrev cX11_backReport : ByteArray := prog_1_method_71_code
def yX11_backReport : MethodName := ⟨RX11, "backReport", "(LSightedMonths$Report;)V"⟩
abbrev cX11_endByOfficial : ByteArray := prog_1_method_72_code
def yX11_endByOfficial : MethodName := ⟨RX11, "endByOfficial", "(II)I"⟩
abbrev cX11_leastLead : ByteArray := prog_1_method_73_code
def yX11_leastLead : MethodName := ⟨RX11, "leastLead", "(ILSightedMonths$Deed;LSightedMonths$Deed;)I"⟩
abbrev cX11_putOut : ByteArray := prog_1_method_74_code
def yX11_putOut : MethodName := ⟨RX11, "putOut", "(C)V"⟩
abbrev cX11_dayOf : ByteArray := prog_1_method_75_code
def yX11_dayOf : MethodName := ⟨RX11, "dayOf", "(II)I"⟩
abbrev cX11_anchorOf : ByteArray := prog_1_method_76_code
def yX11_anchorOf : MethodName := ⟨RX11, "anchorOf", "(II)I"⟩
abbrev cX11_offsetOf : ByteArray := prog_1_method_77_code
def yX11_offsetOf : MethodName := ⟨RX11, "offsetOf", "(I)I"⟩
abbrev cX11_runWithFull : ByteArray := prog_1_method_78_code
def yX11_runWithFull : MethodName := ⟨RX11, "runWithFull", "(II)I"⟩
abbrev cX11_runWithLean : ByteArray := prog_1_method_79_code
def yX11_runWithLean : MethodName := ⟨RX11, "runWithLean", "(III)I"⟩
abbrev cX11_firstRun : ByteArray := prog_1_method_80_code
def yX11_firstRun : MethodName := ⟨RX11, "firstRun", "(I)I"⟩
abbrev cX11_lastRun : ByteArray := prog_1_method_81_code
def yX11_lastRun : MethodName := ⟨RX11, "lastRun", "(III)I"⟩
abbrev cX11_cell : ByteArray := prog_1_method_82_code
def yX11_cell : MethodName := ⟨RX11, "cell", "(II)I"⟩
abbrev cX11_spot : ByteArray := prog_1_method_83_code
def yX11_spot : MethodName := ⟨RX11, "spot", "(III)I"⟩
def RX12 : String := "SightedMonthsModel"
def TX12 : u_T := fun k => match k with
  | 0 => ("SightedMonthsModel", "months", "I", false)
  | 1 => ("SightedMonthsModel", "mostFull", "I", false)
  | 2 => ("SightedMonthsModel", "mostLean", "I", false)
  | 3 => ("SightedMonthsModel", "lines", "I", false)
  | 4 => ("SightedMonthsModel", "hasMoon", "Z", false)
  | 5 => ("SightedMonthsModel", "moonFirst", "I", false)
  | 6 => ("SightedMonthsModel", "moonStep", "I", false)
  | 7 => ("SightedMonthsModel", "places", "I", false)
  | 8 => ("SightedMonthsModel", "trust", "[I", true)
  | 9 => ("SightedMonthsModel", "letter", "[I", true)
  | 10 => ("SightedMonthsModel", "reports", "I", false)
  | 11 => ("SightedMonthsModel", "reportPlace", "[I", true)
  | 12 => ("SightedMonthsModel", "reportKind", "[I", true)
  | 13 => ("SightedMonthsModel", "struck", "[Z", true)
  | 14 => ("SightedMonthsModel", "reportMonth", "[I", true)
  | 15 => ("SightedMonthsModel", "reportDay", "[I", true)
  | 16 => ("SightedMonthsModel", "reportKnown", "[I", true)
  | 17 => ("SightedMonthsModel", "deeds", "I", false)
  | 18 => ("SightedMonthsModel", "deedMonth", "[I", true)
  | 19 => ("SightedMonthsModel", "deedDay", "[I", true)
  | 20 => ("SightedMonthsModel", "deedLong", "[I", true)
  | 21 => ("SightedMonthsModel", "deedKind", "[I", true)
  | 22 => ("SightedMonthsModel", "kept", "[I", true)
  | 23 => ("SightedMonthsModel", "keptAt", "I", false)
  | 24 => ("SightedMonthsModel", "keeps", "Z", false)
  | 25 => ("SightedMonthsModel", "tape", "[I", true)
  | 26 => ("SightedMonthsModel", "taped", "I", false)
  | 27 => ("SightedMonthsModel", "faultKind", "I", false)
  | 28 => ("SightedMonthsModel", "faultPlace", "I", false)
  | 29 => ("SightedMonthsModel", "at", "I", false)
  | 30 => ("SightedMonthsModel", "begin", "I", false)
  | 31 => ("SightedMonthsModel", "token", "I", false)
  | 32 => ("SightedMonthsModel", "value", "I", false)
  | 33 => ("SightedMonthsModel", "bad", "Z", false)
  | 34 => ("SightedMonthsModel", "must", "[I", true)
  | 35 => ("SightedMonthsModel", "least", "[I", true)
  | 36 => ("SightedMonthsModel", "pin", "[I", true)
  | 37 => ("SightedMonthsModel", "isBroken", "Z", false)
  | 38 => ("SightedMonthsModel", "ways", "[I", true)
  | 39 => ("SightedMonthsModel", "verdict", "[I", true)
  | 40 => ("SightedMonthsModel", "row", "[I", true)
  | 41 => ("SightedMonthsModel", "rowMany", "I", false)
  | 42 => ("SightedMonthsModel", "only", "I", false)
  | 43 => ("SightedMonthsModel", "without", "I", false)
  | 44 => ("SightedMonthsModel", "otherTrust", "I", false)
  | 45 => ("SightedMonthsModel", "whose", "I", false)
  | 46 => ("SightedMonthsModel", "official", "[I", true)
  | 47 => ("SightedMonthsModel", "rankedFull", "I", false)
  | 48 => ("SightedMonthsModel", "changes", "I", false)
  | 49 => ("SightedMonthsModel", "latestChange", "I", false)
  | 50 => ("SightedMonthsModel", "canBeLess", "Z", false)
  | 51 => ("SightedMonthsModel", "canBeMore", "Z", false)
  | 52 => ("SightedMonthsModel", "aside", "[I", true)
  | 53 => ("SightedMonthsModel", "worth", "[I", true)
  | 54 => ("SightedMonthsModel", "worthFull", "I", false)
  | 55 => ("SightedMonthsModel", "out", "[I", true)
  | _ => ("SightedMonthsModel", "outs", "I", false)
def tyX12 : Nat → FieldType := fun k => match k with
  | 0 => .int
  | 1 => .int
  | 2 => .int
  | 3 => .int
  | 4 => .boolean
  | 5 => .int
  | 6 => .int
  | 7 => .int
  | 8 => .array .int
  | 9 => .array .int
  | 10 => .int
  | 11 => .array .int
  | 12 => .array .int
  | 13 => .array .boolean
  | 14 => .array .int
  | 15 => .array .int
  | 16 => .array .int
  | 17 => .int
  | 18 => .array .int
  | 19 => .array .int
  | 20 => .array .int
  | 21 => .array .int
  | 22 => .array .int
  | 23 => .int
  | 24 => .boolean
  | 25 => .array .int
  | 26 => .int
  | 27 => .int
  | 28 => .int
  | 29 => .int
  | 30 => .int
  | 31 => .int
  | 32 => .int
  | 33 => .boolean
  | 34 => .array .int
  | 35 => .array .int
  | 36 => .array .int
  | 37 => .boolean
  | 38 => .array .int
  | 39 => .array .int
  | 40 => .array .int
  | 41 => .int
  | 42 => .int
  | 43 => .int
  | 44 => .int
  | 45 => .int
  | 46 => .array .int
  | 47 => .int
  | 48 => .int
  | 49 => .int
  | 50 => .boolean
  | 51 => .boolean
  | 52 => .array .int
  | 53 => .array .int
  | 54 => .int
  | 55 => .array .int
  | _ => .int
abbrev wsX120 : List Cond := u_ws RX12 TX12 57
theorem nmX12 : ∀ a, a < 57 → ∀ b, b < 57 → a ≠ b → (TX12 a).2.1 ≠ (TX12 b).2.1 := by decide +kernel
theorem tyX12_ok : ∀ k, k < 57 → parseFieldDescriptor (TX12 k).2.2.1 = some (tyX12 k) := by decide +kernel
abbrev cX12_in : ByteArray := prog_14_method_1_code
def yX12_in : MethodName := ⟨RX12, "in", "(JJJ)Z"⟩
abbrev cX12_init : ByteArray := prog_14_method_3_code
def yX12_init : MethodName := ⟨RX12, "<init>", "()V"⟩
abbrev cX12_feed : ByteArray := prog_14_method_4_code
def yX12_feed : MethodName := ⟨RX12, "feed", "(IIIII)I"⟩
abbrev cX12_end : ByteArray := prog_14_method_5_code
def yX12_end : MethodName := ⟨RX12, "end", "(I)I"⟩
abbrev cX12_moves : ByteArray := prog_14_method_6_code
def yX12_moves : MethodName := ⟨RX12, "moves", "(I)I"⟩
abbrev cX12_movesRow : ByteArray := prog_14_method_7_code
def yX12_movesRow : MethodName := ⟨RX12, "movesRow", "([I)V"⟩
abbrev cX12_movesAll : ByteArray := prog_14_method_8_code
def yX12_movesAll : MethodName := ⟨RX12, "movesAll", "(Z)V"⟩
abbrev cX12_isAt : ByteArray := prog_14_method_9_code
def yX12_isAt : MethodName := ⟨RX12, "isAt", "(II)Z"⟩
abbrev cX12_next : ByteArray := prog_14_method_10_code
def yX12_next : MethodName := ⟨RX12, "next", "()V"⟩
abbrev cX12_faultsAt : ByteArray := prog_14_method_11_code
def yX12_faultsAt : MethodName := ⟨RX12, "faultsAt", "(II)V"⟩
abbrev cX12_faults : ByteArray := prog_14_method_12_code
def yX12_faults : MethodName := ⟨RX12, "faults", "(I)V"⟩
abbrev cX12_isWord : ByteArray := prog_14_method_13_code
def yX12_isWord : MethodName := ⟨RX12, "isWord", "(Ljava/lang/String;)Z"⟩
abbrev cX12_passes : ByteArray := prog_14_method_14_code
def yX12_passes : MethodName := ⟨RX12, "passes", "(Z)V"⟩
abbrev cX12_word : ByteArray := prog_14_method_15_code
def yX12_word : MethodName := ⟨RX12, "word", "(Ljava/lang/String;)V"⟩
abbrev cX12_number : ByteArray := prog_14_method_16_code
def yX12_number : MethodName := ⟨RX12, "number", "(II)I"⟩
abbrev cX12_numberBehind : ByteArray := prog_14_method_17_code
def yX12_numberBehind : MethodName := ⟨RX12, "numberBehind", "(Ljava/lang/String;II)I"⟩
abbrev cX12_named : ByteArray := prog_14_method_18_code
def yX12_named : MethodName := ⟨RX12, "named", "()I"⟩
abbrev cX12_placeHere : ByteArray := prog_14_method_19_code
def yX12_placeHere : MethodName := ⟨RX12, "placeHere", "()I"⟩
abbrev cX12_readsPlace : ByteArray := prog_14_method_20_code
def yX12_readsPlace : MethodName := ⟨RX12, "readsPlace", "()V"⟩
abbrev cX12_readsReport : ByteArray := prog_14_method_21_code
def yX12_readsReport : MethodName := ⟨RX12, "readsReport", "(I)V"⟩
abbrev cX12_lays : ByteArray := prog_14_method_22_code
def yX12_lays : MethodName := ⟨RX12, "lays", "(IIIII)V"⟩
abbrev cX12_readsDeed : ByteArray := prog_14_method_23_code
def yX12_readsDeed : MethodName := ⟨RX12, "readsDeed", "()V"⟩
abbrev cX12_readsMoon : ByteArray := prog_14_method_24_code
def yX12_readsMoon : MethodName := ⟨RX12, "readsMoon", "()V"⟩
abbrev cX12_readsHead : ByteArray := prog_14_method_25_code
def yX12_readsHead : MethodName := ⟨RX12, "readsHead", "()V"⟩
abbrev cX12_readsLine : ByteArray := prog_14_method_26_code
def yX12_readsLine : MethodName := ⟨RX12, "readsLine", "()V"⟩
abbrev cX12_almanac : ByteArray := prog_14_method_27_code
def yX12_almanac : MethodName := ⟨RX12, "almanac", "()I"⟩
abbrev cX12_fault : ByteArray := prog_14_method_28_code
def yX12_fault : MethodName := ⟨RX12, "fault", "(I)I"⟩
abbrev cX12_count : ByteArray := prog_14_method_29_code
def yX12_count : MethodName := ⟨RX12, "count", "(I)I"⟩
abbrev cX12_isTime : ByteArray := prog_14_method_30_code
def yX12_isTime : MethodName := ⟨RX12, "isTime", "(I)Z"⟩
abbrev cX12_isPlace : ByteArray := prog_14_method_31_code
def yX12_isPlace : MethodName := ⟨RX12, "isPlace", "(I)Z"⟩
abbrev cX12_isReport : ByteArray := prog_14_method_32_code
def yX12_isReport : MethodName := ⟨RX12, "isReport", "(I)Z"⟩
abbrev cX12_isDeed : ByteArray := prog_14_method_33_code
def yX12_isDeed : MethodName := ⟨RX12, "isDeed", "(I)Z"⟩
abbrev cX12_isNameAhead : ByteArray := prog_14_method_34_code
def yX12_isNameAhead : MethodName := ⟨RX12, "isNameAhead", "(II)Z"⟩
abbrev cX12_place : ByteArray := prog_14_method_35_code
def yX12_place : MethodName := ⟨RX12, "place", "(II)I"⟩
abbrev cX12_report : ByteArray := prog_14_method_36_code
def yX12_report : MethodName := ⟨RX12, "report", "(II)I"⟩
abbrev cX12_deed : ByteArray := prog_14_method_37_code
def yX12_deed : MethodName := ⟨RX12, "deed", "(II)I"⟩
abbrev cX12_earlyOf : ByteArray := prog_14_method_38_code
def yX12_earlyOf : MethodName := ⟨RX12, "earlyOf", "(I)I"⟩
abbrev cX12_early : ByteArray := prog_14_method_39_code
def yX12_early : MethodName := ⟨RX12, "early", "(I)I"⟩
abbrev cX12_frees : ByteArray := prog_14_method_40_code
def yX12_frees : MethodName := ⟨RX12, "frees", "()V"⟩
abbrev cX12_unpins : ByteArray := prog_14_method_41_code
def yX12_unpins : MethodName := ⟨RX12, "unpins", "()V"⟩
abbrev cX12_isOpen : ByteArray := prog_14_method_42_code
def yX12_isOpen : MethodName := ⟨RX12, "isOpen", "(II)Z"⟩
abbrev cX12_runBehind : ByteArray := prog_14_method_43_code
def yX12_runBehind : MethodName := ⟨RX12, "runBehind", "(II)I"⟩
abbrev cX12_placeOf : ByteArray := prog_14_method_44_code
def yX12_placeOf : MethodName := ⟨RX12, "placeOf", "(III)I"⟩
abbrev cX12_waysBy : ByteArray := prog_14_method_45_code
def yX12_waysBy : MethodName := ⟨RX12, "waysBy", "(IIII)I"⟩
abbrev cX12_counts : ByteArray := prog_14_method_46_code
def yX12_counts : MethodName := ⟨RX12, "counts", "()I"⟩
abbrev cX12_countsWith : ByteArray := prog_14_method_47_code
def yX12_countsWith : MethodName := ⟨RX12, "countsWith", "(IIII)I"⟩
abbrev cX12_trustOf : ByteArray := prog_14_method_48_code
def yX12_trustOf : MethodName := ⟨RX12, "trustOf", "(I)I"⟩
abbrev cX12_isAhead : ByteArray := prog_14_method_49_code
def yX12_isAhead : MethodName := ⟨RX12, "isAhead", "(II)Z"⟩
abbrev cX12_isKnown : ByteArray := prog_14_method_50_code
def yX12_isKnown : MethodName := ⟨RX12, "isKnown", "(II)Z"⟩
abbrev cX12_laysRow : ByteArray := prog_14_method_51_code
def yX12_laysRow : MethodName := ⟨RX12, "laysRow", "(I)V"⟩
abbrev cX12_holds : ByteArray := prog_14_method_52_code
def yX12_holds : MethodName := ⟨RX12, "holds", "(I)V"⟩
abbrev cX12_judges : ByteArray := prog_14_method_53_code
def yX12_judges : MethodName := ⟨RX12, "judges", "(I)I"⟩
abbrev cX12_judgesAll : ByteArray := prog_14_method_54_code
def yX12_judgesAll : MethodName := ⟨RX12, "judgesAll", "(I)V"⟩
abbrev cX12_takenBits : ByteArray := prog_14_method_55_code
def yX12_takenBits : MethodName := ⟨RX12, "takenBits", "()I"⟩
abbrev cX12_judged : ByteArray := prog_14_method_56_code
def yX12_judged : MethodName := ⟨RX12, "judged", "(II)I"⟩
abbrev cX12_taken : ByteArray := prog_14_method_57_code
def yX12_taken : MethodName := ⟨RX12, "taken", "(I)I"⟩
abbrev cX12_order : ByteArray := prog_14_method_58_code
def yX12_order : MethodName := ⟨RX12, "order", "(II)I"⟩
abbrev cX12_areBoth : ByteArray := prog_14_method_59_code
def yX12_areBoth : MethodName := ⟨RX12, "areBoth", "(II)Z"⟩
abbrev cX12_against : ByteArray := prog_14_method_60_code
def yX12_against : MethodName := ⟨RX12, "against", "(II)I"⟩
abbrev cX12_both : ByteArray := prog_14_method_61_code
def yX12_both : MethodName := ⟨RX12, "both", "(II)I"⟩
abbrev cX12_blind : ByteArray := prog_14_method_62_code
def yX12_blind : MethodName := ⟨RX12, "blind", "(II)I"⟩
abbrev cX12_later : ByteArray := prog_14_method_63_code
def yX12_later : MethodName := ⟨RX12, "later", "(I)I"⟩
abbrev cX12_laysOfficial : ByteArray := prog_14_method_64_code
def yX12_laysOfficial : MethodName := ⟨RX12, "laysOfficial", "()V"⟩
abbrev cX12_officialBy : ByteArray := prog_14_method_65_code
def yX12_officialBy : MethodName := ⟨RX12, "officialBy", "(I)V"⟩
abbrev cX12_isBegin : ByteArray := prog_14_method_66_code
def yX12_isBegin : MethodName := ⟨RX12, "isBegin", "(I)Z"⟩
abbrev cX12_isMonth : ByteArray := prog_14_method_67_code
def yX12_isMonth : MethodName := ⟨RX12, "isMonth", "(I)Z"⟩
abbrev cX12_ways : ByteArray := prog_14_method_68_code
def yX12_ways : MethodName := ⟨RX12, "ways", "(I)I"⟩
abbrev cX12_begin : ByteArray := prog_14_method_69_code
def yX12_begin : MethodName := ⟨RX12, "begin", "(II)I"⟩
abbrev cX12_beginsOn : ByteArray := prog_14_method_70_code
def yX12_beginsOn : MethodName := ⟨RX12, "beginsOn", "(II)I"⟩
abbrev cX12_spanOf : ByteArray := prog_14_method_71_code
def yX12_spanOf : MethodName := ⟨RX12, "spanOf", "(II)I"⟩
abbrev cX12_span : ByteArray := prog_14_method_72_code
def yX12_span : MethodName := ⟨RX12, "span", "(III)I"⟩
abbrev cX12_sure : ByteArray := prog_14_method_73_code
def yX12_sure : MethodName := ⟨RX12, "sure", "(I)I"⟩
abbrev cX12_lasts : ByteArray := prog_14_method_74_code
def yX12_lasts : MethodName := ⟨RX12, "lasts", "(II)I"⟩
abbrev cX12_could : ByteArray := prog_14_method_75_code
def yX12_could : MethodName := ⟨RX12, "could", "(III)I"⟩
abbrev cX12_lean : ByteArray := prog_14_method_76_code
def yX12_lean : MethodName := ⟨RX12, "lean", "(II)I"⟩
abbrev cX12_laysRanked : ByteArray := prog_14_method_77_code
def yX12_laysRanked : MethodName := ⟨RX12, "laysRanked", "(I)V"⟩
abbrev cX12_ranked : ByteArray := prog_14_method_78_code
def yX12_ranked : MethodName := ⟨RX12, "ranked", "(III)I"⟩
abbrev cX12_rank : ByteArray := prog_14_method_79_code
def yX12_rank : MethodName := ⟨RX12, "rank", "(II)I"⟩
abbrev cX12_drawn : ByteArray := prog_14_method_80_code
def yX12_drawn : MethodName := ⟨RX12, "drawn", "(II)I"⟩
abbrev cX12_lengthBy : ByteArray := prog_14_method_81_code
def yX12_lengthBy : MethodName := ⟨RX12, "lengthBy", "(I)I"⟩
abbrev cX12_dayBy : ByteArray := prog_14_method_82_code
def yX12_dayBy : MethodName := ⟨RX12, "dayBy", "(II)I"⟩
abbrev cX12_isInMonth : ByteArray := prog_14_method_83_code
def yX12_isInMonth : MethodName := ⟨RX12, "isInMonth", "(I)Z"⟩
abbrev cX12_day : ByteArray := prog_14_method_84_code
def yX12_day : MethodName := ⟨RX12, "day", "(III)I"⟩
abbrev cX12_date : ByteArray := prog_14_method_85_code
def yX12_date : MethodName := ⟨RX12, "date", "(II)I"⟩
abbrev cX12_datesWith : ByteArray := prog_14_method_86_code
def yX12_datesWith : MethodName := ⟨RX12, "datesWith", "(III)I"⟩
abbrev cX12_dates : ByteArray := prog_14_method_87_code
def yX12_dates : MethodName := ⟨RX12, "dates", "(II)I"⟩
abbrev cX12_likely : ByteArray := prog_14_method_88_code
def yX12_likely : MethodName := ⟨RX12, "likely", "(II)I"⟩
abbrev cX12_fallsOn : ByteArray := prog_14_method_89_code
def yX12_fallsOn : MethodName := ⟨RX12, "fallsOn", "(III)I"⟩
abbrev cX12_weekday : ByteArray := prog_14_method_90_code
def yX12_weekday : MethodName := ⟨RX12, "weekday", "(IIII)I"⟩
abbrev cX12_moved : ByteArray := prog_14_method_91_code
def yX12_moved : MethodName := ⟨RX12, "moved", "(III)I"⟩
abbrev cX12_nextTime : ByteArray := prog_14_method_92_code
def yX12_nextTime : MethodName := ⟨RX12, "nextTime", "(I)I"⟩
abbrev cX12_follows : ByteArray := prog_14_method_93_code
def yX12_follows : MethodName := ⟨RX12, "follows", "(II)V"⟩
abbrev cX12_shifts : ByteArray := prog_14_method_94_code
def yX12_shifts : MethodName := ⟨RX12, "shifts", "(I)I"⟩
abbrev cX12_settled : ByteArray := prog_14_method_95_code
def yX12_settled : MethodName := ⟨RX12, "settled", "(I)I"⟩
abbrev cX12_monthOf : ByteArray := prog_14_method_96_code
def yX12_monthOf : MethodName := ⟨RX12, "monthOf", "(I)I"⟩
abbrev cX12_behindOf : ByteArray := prog_14_method_97_code
def yX12_behindOf : MethodName := ⟨RX12, "behindOf", "(I)I"⟩
abbrev cX12_dueBy : ByteArray := prog_14_method_98_code
def yX12_dueBy : MethodName := ⟨RX12, "dueBy", "(I)I"⟩
abbrev cX12_due : ByteArray := prog_14_method_99_code
def yX12_due : MethodName := ⟨RX12, "due", "(II)I"⟩
abbrev cX12_duesOn : ByteArray := prog_14_method_100_code
def yX12_duesOn : MethodName := ⟨RX12, "duesOn", "(II)I"⟩
abbrev cX12_dueSpanOf : ByteArray := prog_14_method_101_code
def yX12_dueSpanOf : MethodName := ⟨RX12, "dueSpanOf", "(II)I"⟩
abbrev cX12_dueSpan : ByteArray := prog_14_method_102_code
def yX12_dueSpan : MethodName := ⟨RX12, "dueSpan", "(III)I"⟩
abbrev cX12_dueOn : ByteArray := prog_14_method_103_code
def yX12_dueOn : MethodName := ⟨RX12, "dueOn", "(III)I"⟩
abbrev cX12_redated : ByteArray := prog_14_method_104_code
def yX12_redated : MethodName := ⟨RX12, "redated", "(I)I"⟩
abbrev cX12_days : ByteArray := prog_14_method_105_code
def yX12_days : MethodName := ⟨RX12, "days", "(II)I"⟩
abbrev cX12_compares : ByteArray := prog_14_method_106_code
def yX12_compares : MethodName := ⟨RX12, "compares", "(II)V"⟩
abbrev cX12_longer : ByteArray := prog_14_method_107_code
def yX12_longer : MethodName := ⟨RX12, "longer", "(III)I"⟩
abbrev cX12_keepsOfficial : ByteArray := prog_14_method_108_code
def yX12_keepsOfficial : MethodName := ⟨RX12, "keepsOfficial", "()V"⟩
abbrev cX12_unlike : ByteArray := prog_14_method_109_code
def yX12_unlike : MethodName := ⟨RX12, "unlike", "()I"⟩
abbrev cX12_ownBy : ByteArray := prog_14_method_110_code
def yX12_ownBy : MethodName := ⟨RX12, "ownBy", "(II)V"⟩
abbrev cX12_own : ByteArray := prog_14_method_111_code
def yX12_own : MethodName := ⟨RX12, "own", "(III)I"⟩
abbrev cX12_apart : ByteArray := prog_14_method_112_code
def yX12_apart : MethodName := ⟨RX12, "apart", "(III)I"⟩
abbrev cX12_hang : ByteArray := prog_14_method_113_code
def yX12_hang : MethodName := ⟨RX12, "hang", "(II)I"⟩
abbrev cX12_trusted : ByteArray := prog_14_method_114_code
def yX12_trusted : MethodName := ⟨RX12, "trusted", "(II)I"⟩
abbrev cX12_telling : ByteArray := prog_14_method_115_code
def yX12_telling : MethodName := ⟨RX12, "telling", "(I)I"⟩
abbrev cX12_worthBy : ByteArray := prog_14_method_116_code
def yX12_worthBy : MethodName := ⟨RX12, "worthBy", "(IIII)I"⟩
abbrev cX12_costOf : ByteArray := prog_14_method_117_code
def yX12_costOf : MethodName := ⟨RX12, "costOf", "(IIIZ)I"⟩
abbrev cX12_laysWorth : ByteArray := prog_14_method_118_code
def yX12_laysWorth : MethodName := ⟨RX12, "laysWorth", "(IZ)I"⟩
abbrev cX12_nearest : ByteArray := prog_14_method_119_code
def yX12_nearest : MethodName := ⟨RX12, "nearest", "(II)I"⟩
abbrev cX12_backed : ByteArray := prog_14_method_120_code
def yX12_backed : MethodName := ⟨RX12, "backed", "(II)I"⟩
abbrev cX12_tell : ByteArray := prog_14_method_121_code
def yX12_tell : MethodName := ⟨RX12, "tell", "(I)I"⟩
abbrev cX12_octet : ByteArray := prog_14_method_122_code
def yX12_octet : MethodName := ⟨RX12, "octet", "(I)I"⟩
abbrev cX12_reports : ByteArray := prog_14_method_123_code
def yX12_reports : MethodName := ⟨RX12, "reports", "(IIIII)I"⟩
abbrev cX12_strikes : ByteArray := prog_14_method_124_code
def yX12_strikes : MethodName := ⟨RX12, "strikes", "(I)I"⟩
abbrev cX12_trusts : ByteArray := prog_14_method_125_code
def yX12_trusts : MethodName := ⟨RX12, "trusts", "(II)I"⟩
abbrev cX12_moon : ByteArray := prog_14_method_126_code
def yX12_moon : MethodName := ⟨RX12, "moon", "(II)I"⟩
abbrev cX12_runs : ByteArray := prog_14_method_127_code
def yX12_runs : MethodName := ⟨RX12, "runs", "(II)I"⟩
def RJx145de : String := "java/io/Serializable"
def TJx145de : u_T := fun k => match k with
  | _ => ("", "", "", false)
def tyJx145de : Nat → FieldType := fun k => match k with
  | _ => .int
abbrev wsJx145de0 : List Cond := u_ws RJx145de TJx145de 0
theorem nmJx145de : ∀ a, a < 0 → ∀ b, b < 0 → a ≠ b → (TJx145de a).2.1 ≠ (TJx145de b).2.1 := by decide +kernel
theorem tyJx145de_ok : ∀ k, k < 0 → parseFieldDescriptor (TJx145de k).2.2.1 = some (tyJx145de k) := by decide +kernel
def RJx9f9b0 : String := "java/lang/CharSequence"
def TJx9f9b0 : u_T := fun k => match k with
  | _ => ("", "", "", false)
def tyJx9f9b0 : Nat → FieldType := fun k => match k with
  | _ => .int
abbrev wsJx9f9b00 : List Cond := u_ws RJx9f9b0 TJx9f9b0 0
theorem nmJx9f9b0 : ∀ a, a < 0 → ∀ b, b < 0 → a ≠ b → (TJx9f9b0 a).2.1 ≠ (TJx9f9b0 b).2.1 := by decide +kernel
theorem tyJx9f9b0_ok : ∀ k, k < 0 → parseFieldDescriptor (TJx9f9b0 k).2.2.1 = some (tyJx9f9b0 k) := by decide +kernel
def RJxb160c : String := "java/lang/Comparable"
def TJxb160c : u_T := fun k => match k with
  | _ => ("", "", "", false)
def tyJxb160c : Nat → FieldType := fun k => match k with
  | _ => .int
abbrev wsJxb160c0 : List Cond := u_ws RJxb160c TJxb160c 0
theorem nmJxb160c : ∀ a, a < 0 → ∀ b, b < 0 → a ≠ b → (TJxb160c a).2.1 ≠ (TJxb160c b).2.1 := by decide +kernel
theorem tyJxb160c_ok : ∀ k, k < 0 → parseFieldDescriptor (TJxb160c k).2.2.1 = some (tyJxb160c k) := by decide +kernel
def RJ6 : String := "java/lang/Integer"
def TJ6 : u_T := fun k => match k with
  | _ => ("", "", "", false)
def tyJ6 : Nat → FieldType := fun k => match k with
  | _ => .int
abbrev wsJ60 : List Cond := u_ws RJ6 TJ6 0
theorem nmJ6 : ∀ a, a < 0 → ∀ b, b < 0 → a ≠ b → (TJ6 a).2.1 ≠ (TJ6 b).2.1 := by decide +kernel
theorem tyJ6_ok : ∀ k, k < 0 → parseFieldDescriptor (TJ6 k).2.2.1 = some (tyJ6 k) := by decide +kernel
abbrev cJ6_bitCount_0f7a4 : ByteArray := prog_15_method_49_code
def yJ6_bitCount_0f7a4 : MethodName := ⟨RJ6, "bitCount", "(I)I"⟩
def RJ9 : String := "java/lang/Math"
def TJ9 : u_T := fun k => match k with
  | _ => ("", "", "", false)
def tyJ9 : Nat → FieldType := fun k => match k with
  | _ => .int
abbrev wsJ90 : List Cond := u_ws RJ9 TJ9 0
theorem nmJ9 : ∀ a, a < 0 → ∀ b, b < 0 → a ≠ b → (TJ9 a).2.1 ≠ (TJ9 b).2.1 := by decide +kernel
theorem tyJ9_ok : ∀ k, k < 0 → parseFieldDescriptor (TJ9 k).2.2.1 = some (tyJ9 k) := by decide +kernel
abbrev cJ9_abs_0f7a4 : ByteArray := prog_16_method_59_code
def yJ9_abs_0f7a4 : MethodName := ⟨RJ9, "abs", "(I)I"⟩
abbrev cJ9_max_7cf53 : ByteArray := prog_16_method_65_code
def yJ9_max_7cf53 : MethodName := ⟨RJ9, "max", "(II)I"⟩
abbrev cJ9_min_7cf53 : ByteArray := prog_16_method_69_code
def yJ9_min_7cf53 : MethodName := ⟨RJ9, "min", "(II)I"⟩
def RJ0 : String := "java/lang/String"
def TJ0 : u_T := fun k => match k with
  | _ => ("", "", "", false)
def tyJ0 : Nat → FieldType := fun k => match k with
  | _ => .int
abbrev wsJ00 : List Cond := u_ws RJ0 TJ0 0
theorem nmJ0 : ∀ a, a < 0 → ∀ b, b < 0 → a ≠ b → (TJ0 a).2.1 ≠ (TJ0 b).2.1 := by decide +kernel
theorem tyJ0_ok : ∀ k, k < 0 → parseFieldDescriptor (TJ0 k).2.2.1 = some (tyJ0 k) := by decide +kernel
abbrev cJ0_length_8abf5 : ByteArray := prog_17_method_54_code
def yJ0_length_8abf5 : MethodName := ⟨RJ0, "length", "()I"⟩
abbrev cJ0_charAt_5068e : ByteArray := prog_17_method_56_code
def yJ0_charAt_5068e : MethodName := ⟨RJ0, "charAt", "(I)C"⟩
abbrev cJ0_coder_7d493 : ByteArray := prog_17_method_152_code
def yJ0_coder_7d493 : MethodName := ⟨RJ0, "coder", "()B"⟩
abbrev cJ0_isLatin1_aae02 : ByteArray := prog_17_method_154_code
def yJ0_isLatin1_aae02 : MethodName := ⟨RJ0, "isLatin1", "()Z"⟩
abbrev cJ0_checkIndex_df160 : ByteArray := prog_17_method_155_code
def yJ0_checkIndex_df160 : MethodName := ⟨RJ0, "checkIndex", "(II)V"⟩
def RJ1 : String := "java/lang/StringLatin1"
def TJ1 : u_T := fun k => match k with
  | _ => ("", "", "", false)
def tyJ1 : Nat → FieldType := fun k => match k with
  | _ => .int
abbrev wsJ10 : List Cond := u_ws RJ1 TJ1 0
theorem nmJ1 : ∀ a, a < 0 → ∀ b, b < 0 → a ≠ b → (TJ1 a).2.1 ≠ (TJ1 b).2.1 := by decide +kernel
theorem tyJ1_ok : ∀ k, k < 0 → parseFieldDescriptor (TJ1 k).2.2.1 = some (tyJ1 k) := by decide +kernel
abbrev cJ1_charAt_3b067 : ByteArray := prog_18_method_2_code
def yJ1_charAt_3b067 : MethodName := ⟨RJ1, "charAt", "([BI)C"⟩
def RJ2 : String := "java/lang/StringUTF16"
def TJ2 : u_T := fun k => match k with
  | _ => ("", "", "", false)
def tyJ2 : Nat → FieldType := fun k => match k with
  | _ => .int
abbrev wsJ20 : List Cond := u_ws RJ2 TJ2 0
theorem nmJ2 : ∀ a, a < 0 → ∀ b, b < 0 → a ≠ b → (TJ2 a).2.1 ≠ (TJ2 b).2.1 := by decide +kernel
theorem tyJ2_ok : ∀ k, k < 0 → parseFieldDescriptor (TJ2 k).2.2.1 = some (tyJ2 k) := by decide +kernel
abbrev cJ2_getChar_3b067 : ByteArray := prog_19_method_5_code
def yJ2_getChar_3b067 : MethodName := ⟨RJ2, "getChar", "([BI)C"⟩
abbrev cJ2_length_9d52b : ByteArray := prog_19_method_6_code
def yJ2_length_9d52b : MethodName := ⟨RJ2, "length", "([B)I"⟩
abbrev cJ2_charAt_3b067 : ByteArray := prog_19_method_83_code
def yJ2_charAt_3b067 : MethodName := ⟨RJ2, "charAt", "([BI)C"⟩
abbrev cJ2_checkIndex_2214a : ByteArray := prog_19_method_91_code
def yJ2_checkIndex_2214a : MethodName := ⟨RJ2, "checkIndex", "(I[B)V"⟩
def RJ10 : String := "java/lang/System"
def TJ10 : u_T := fun k => match k with
  | _ => ("", "", "", false)
def tyJ10 : Nat → FieldType := fun k => match k with
  | _ => .int
abbrev wsJ100 : List Cond := u_ws RJ10 TJ10 0
theorem nmJ10 : ∀ a, a < 0 → ∀ b, b < 0 → a ≠ b → (TJ10 a).2.1 ≠ (TJ10 b).2.1 := by decide +kernel
theorem tyJ10_ok : ∀ k, k < 0 → parseFieldDescriptor (TJ10 k).2.2.1 = some (tyJ10 k) := by decide +kernel
def RJxfd54e : String := "java/lang/constant/Constable"
def TJxfd54e : u_T := fun k => match k with
  | _ => ("", "", "", false)
def tyJxfd54e : Nat → FieldType := fun k => match k with
  | _ => .int
abbrev wsJxfd54e0 : List Cond := u_ws RJxfd54e TJxfd54e 0
theorem nmJxfd54e : ∀ a, a < 0 → ∀ b, b < 0 → a ≠ b → (TJxfd54e a).2.1 ≠ (TJxfd54e b).2.1 := by decide +kernel
theorem tyJxfd54e_ok : ∀ k, k < 0 → parseFieldDescriptor (TJxfd54e k).2.2.1 = some (tyJxfd54e k) := by decide +kernel
def RJx3cf43 : String := "java/lang/constant/ConstantDesc"
def TJx3cf43 : u_T := fun k => match k with
  | _ => ("", "", "", false)
def tyJx3cf43 : Nat → FieldType := fun k => match k with
  | _ => .int
abbrev wsJx3cf430 : List Cond := u_ws RJx3cf43 TJx3cf43 0
theorem nmJx3cf43 : ∀ a, a < 0 → ∀ b, b < 0 → a ≠ b → (TJx3cf43 a).2.1 ≠ (TJx3cf43 b).2.1 := by decide +kernel
theorem tyJx3cf43_ok : ∀ k, k < 0 → parseFieldDescriptor (TJx3cf43 k).2.2.1 = some (tyJx3cf43 k) := by decide +kernel
def RJ7 : String := "java/util/Arrays"
def TJ7 : u_T := fun k => match k with
  | _ => ("", "", "", false)
def tyJ7 : Nat → FieldType := fun k => match k with
  | _ => .int
abbrev wsJ70 : List Cond := u_ws RJ7 TJ7 0
theorem nmJ7 : ∀ a, a < 0 → ∀ b, b < 0 → a ≠ b → (TJ7 a).2.1 ≠ (TJ7 b).2.1 := by decide +kernel
theorem tyJ7_ok : ∀ k, k < 0 → parseFieldDescriptor (TJ7 k).2.2.1 = some (tyJ7 k) := by decide +kernel
abbrev cJ7_fill_53178 : ByteArray := prog_21_method_103_code
def yJ7_fill_53178 : MethodName := ⟨RJ7, "fill", "([II)V"⟩
def RJ3 : String := "jdk/internal/util/Preconditions"
def TJ3 : u_T := fun k => match k with
  | _ => ("", "", "", false)
def tyJ3 : Nat → FieldType := fun k => match k with
  | _ => .int
abbrev wsJ30 : List Cond := u_ws RJ3 TJ3 0
theorem nmJ3 : ∀ a, a < 0 → ∀ b, b < 0 → a ≠ b → (TJ3 a).2.1 ≠ (TJ3 b).2.1 := by decide +kernel
theorem tyJ3_ok : ∀ k, k < 0 → parseFieldDescriptor (TJ3 k).2.2.1 = some (tyJ3 k) := by decide +kernel
abbrev cJ3_checkIndex_8e157 : ByteArray := prog_22_method_11_code
def yJ3_checkIndex_8e157 : MethodName := ⟨RJ3, "checkIndex", "(IILjava/util/function/BiFunction;)I"⟩
def RL : String := "SightedMonthsLaw"
abbrev cL_law : ByteArray := code
def yL_law : MethodName := ⟨RL, "law", "([I)Z"⟩
abbrev vwCl : List vw_C := [(RX0, TX0, 13), (RX1, TX1, 7), (RX2, TX2, 4), (RX3, TX3, 5), (RX4, TX4, 3), (RX5, TX5, 2), (RX6, TX6, 7), (RX7, TX7, 6), (RX8, TX8, 5), (RX9, TX9, 6), (RX10, TX10, 2), (RX11, TX11, 16), (RX12, TX12, 57)]
end
section
/-! words: of a family's list, of the tables -/
theorem goodIn_app {big a b : List Cond} (ha : GoodIn big a) (hb : GoodIn big b) : GoodIn big (a ++ b) := fun w h => (List.mem_append.mp h).elim (ha w) (hb w)
theorem gz_gP {G : List Cond} {c0 c : Cond} (hc : c ∈ G) (hg : G.all goodWord = true) : GoodIn (c0 :: G) (c :: G) := fun w h => by
  have h1 : w ∈ G := (List.mem_cons.mp h).elim (fun e => e ▸ hc) id
  exact ⟨List.mem_cons_of_mem _ h1, good_of_word (List.all_eq_true.mp hg w h1)⟩
theorem gz_gm {G : List Cond} {c0 c : Cond} (hc : c ∈ G) (hg : G.all goodWord = true) : c ∈ c0 :: G ∧ ((c.onTables && c.keeps) = true ∨ ∃ ty, c = .arrayClass ty) := ⟨List.mem_cons_of_mem _ hc, good_of_word (List.all_eq_true.mp hg c hc)⟩
theorem goodIn_cons {big ws : List Cond} {c : Cond} (h : c ∈ big ∧ ((c.onTables && c.keeps) = true ∨ ∃ ty, c = .arrayClass ty)) (hb : GoodIn big ws) : GoodIn big (c :: ws) := fun w hw => (List.mem_cons.mp hw).elim (fun e => e ▸ h) (hb w)
theorem goodIn_nil {big : List Cond} : GoodIn big [] := fun _ h => absurd h List.not_mem_nil
theorem gz_gV {G : List Cond} {c0 c : Cond} {own C : String} {idx : Nat} {y : MethodName} (h1 : Cond.methodLink own idx y ∈ G) (h2 : Cond.instanceMethod y ∈ G) (h3 : Cond.selects C y y ∈ G) (h4 : Cond.initialized C ∈ G) (hc : c ∈ G) (hg : G.all goodWord = true) : GoodIn (c0 :: G) (wsV own idx C y (c :: G)) :=
  goodIn_app (goodIn_cons (gz_gm h1 hg) (goodIn_cons (gz_gm h2 hg) (goodIn_cons (gz_gm h3 hg) (goodIn_cons (gz_gm h4 hg) goodIn_nil)))) (gz_gP hc hg)
theorem gz_gS {G : List Cond} {c0 c : Cond} {own : String} {idx : Nat} {y : MethodName} (h1 : Cond.methodLink own idx y ∈ G) (h2 : Cond.static y ∈ G) (h4 : Cond.initialized own ∈ G) (hc : c ∈ G) (hg : G.all goodWord = true) : GoodIn (c0 :: G) (wsS own idx y (c :: G)) :=
  goodIn_app (goodIn_cons (gz_gm h1 hg) (goodIn_cons (gz_gm h2 hg) (goodIn_cons (gz_gm h4 hg) goodIn_nil))) (gz_gP hc hg)
theorem gz_lP {G : List Cond} {c : Cond} (hc : c ∈ lw_tbl) (hl : ∀ w ∈ G, w ∈ lw_tbl) (hg : G.all goodWord = true) (hw : goodWord c = true := by rfl) : GoodIn lw_tbl (c :: G) := fun w h => (List.mem_cons.mp h).elim (fun e => e ▸ ⟨hc, good_of_word hw⟩) (fun h1 => ⟨hl w h1, good_of_word (List.all_eq_true.mp hg w h1)⟩)
theorem gz_lV {G : List Cond} {c : Cond} {own C : String} {idx : Nat} {y : MethodName} (h1 : Cond.methodLink own idx y ∈ lw_tbl) (h2 : Cond.instanceMethod y ∈ lw_tbl) (h3 : Cond.selects C y y ∈ lw_tbl) (h4 : Cond.initialized C ∈ lw_tbl) (hc : c ∈ lw_tbl) (hl : ∀ w ∈ G, w ∈ lw_tbl) (hg : G.all goodWord = true) (hw : goodWord c = true := by rfl) : GoodIn lw_tbl (wsV own idx C y (c :: G)) :=
  goodIn_app (goodIn_cons ⟨h1, good_of_word rfl⟩ (goodIn_cons ⟨h2, good_of_word rfl⟩ (goodIn_cons ⟨h3, good_of_word rfl⟩ (goodIn_cons ⟨h4, good_of_word rfl⟩ goodIn_nil)))) (gz_lP hc hl hg hw)
/-! rows of our own that every walk uses -/
theorem gz_topi {p : Program} {l : Launch} {e : Env} {R : Room} {s : State} {m : MethodId} {args : Array Value} {below : List Frame} {meth : Method} {c : Code} {H : Heap} {locs : List Loc} {cells slots : Nat} {Q : State → Prop} {pc : Nat} {ls : Array Slot} {rest : List Value} {x y : Int32} (h : x = y) (k : W p l e R s m args below meth c H locs cells slots Q (F0 m pc ls (.int y :: rest))) : W p l e R s m args below meth c H locs cells slots Q (F0 m pc ls (.int x :: rest)) := h ▸ k
/-- a call that changes nothing: the world stays -/
theorem gz_keep {D : va_G} {cl : List vw_C} {ws : va_W} {H H1 : Heap} (hP : va_P D cl ws H) (hk : ∀ q : Nat, q < H.size → ¬ (fun _ : Nat => False) q → H1[q]? = H[q]?) : va_P D cl ws H1 := by
  intro k q hq
  have h := hP k q hq
  obtain ⟨a, o | o⟩ := q
  · have h : H[a]? = some (vp_cell o.1 o.2) := h
    show H1[a]? = some (vp_cell o.1 o.2)
    rw [hk a (Array.getElem?_eq_some_iff.mp h).1 (fun f => f)]
    exact h
  · obtain ⟨r, h1, h2⟩ := h
    obtain ⟨cell, hc, -⟩ := id h2
    exact ⟨r, h1, h2.kept (hk a (Array.getElem?_eq_some_iff.mp hc).1 (fun f => f))⟩
theorem gz_nle {x : Int32} (h : ¬ x < 0) : 0 ≤ x := Int32.not_lt.mp h
theorem gz_sw (x : Int32) (n : Nat) (hn : n < 2 ^ 31) {N : Int} (hN : N = (n : Int) := by rfl) : (x.toInt < 0 ∨ N < x.toInt) ∨ ∃ j : Nat, j ≤ n ∧ x = nI j := by
  subst hN
  by_cases h : x < 0
  · exact Or.inl (Or.inl (by simpa [Int32.lt_iff_toInt_lt] using h))
  · obtain ⟨j, hj, rfl⟩ := nI_of h
    by_cases hjn : j ≤ n
    · exact Or.inr ⟨j, hjn, rfl⟩
    · refine Or.inl (Or.inr ?_)
      rw [nI_toInt hj]
      omega
def gz_fault (x : Int32) : Int32 := if x = 0 then 0 else (-1)
def gz_count (x : Int32) : Int32 := if 0 ≤ x.toInt ∧ x.toInt ≤ 10 then 0 else (-1)
theorem gz_count_out {x : Int32} (h : x.toInt < 0 ∨ 10 < x.toInt) : (-1) = gz_count x := by
  unfold gz_count
  rw [if_neg (by omega)]
def gz_in (v lo hi : Int64) : Int32 := if lo ≤ v ∧ v ≤ hi then 1 else 0
theorem gz_in_lt {v lo hi : Int64} (h : lg_cmp v lo < 0) : 0 = gz_in v lo hi := by
  have h1 : v < lo := (lg_cmp_lt v lo).mp h
  unfold gz_in
  rw [if_neg (fun q => absurd (Int64.lt_of_le_of_lt q.1 h1) Int64.lt_irrefl)]
theorem gz_in_gt {v lo hi : Int64} (h : 0 < lg_cmp v hi) : 0 = gz_in v lo hi := by
  have h1 : hi < v := (lg_cmp_gt v hi).mp h
  unfold gz_in
  rw [if_neg (fun q => absurd (Int64.lt_of_le_of_lt q.2 h1) Int64.lt_irrefl)]
theorem gz_in_yes {v lo hi : Int64} (h : ¬ lg_cmp v lo < 0) (h2 : ¬ 0 < lg_cmp v hi) : 1 = gz_in v lo hi := by
  have h1 : lo ≤ v := Int64.not_lt.mp (fun q => h ((lg_cmp_lt v lo).mpr q))
  have h3 : v ≤ hi := Int64.not_lt.mp (fun q => h2 ((lg_cmp_gt v hi).mpr q))
  unfold gz_in
  rw [if_pos ⟨h1, h3⟩]
theorem gz_in_none (v : Int64) : gz_in v 0 (-1) = 0 := by
  unfold gz_in
  rw [if_neg (fun q => absurd (Int64.le_trans q.1 q.2) (by decide))]
theorem gz_P0 {D : va_G} {cl : List vw_C} {H : Heap} : va_P D cl [] H := fun k q h => by simp at h
theorem gz_D0 {A : Nat → Prop} : va_D A [] := ⟨fun i j p q h => by simp at h, fun k q h => by simp at h⟩
theorem gz_upd0z (k : Nat) : upd (fun _ => 0) k (vp_nar .boolean 0) = (fun _ => 0) := by
  funext j
  unfold upd
  split
  · rfl
  · rfl
def gz_end (x : Int32) : Int32 := if x = 0 then 0 else (-1)
theorem gz_end_neg {x : Int32} (h : x < 0) : (-1) = gz_end x := by
  unfold gz_end
  rw [if_neg (fun q => by rw [q] at h; exact absurd h (by decide))]
theorem gz_end_pos {x : Int32} (h : ¬ x ≤ 0) : (-1) = gz_end x := by
  unfold gz_end
  rw [if_neg (fun q => by rw [q] at h; exact absurd (by decide) h)]
theorem gz_z {x : Int32} (h : ¬ x < 0) (h2 : x ≤ 0) : x = 0 := Int32.le_antisymm h2 (Int32.not_lt.mp h)
theorem gz_end_z {x : Int32} (h : ¬ x < 0) (h2 : x ≤ 0) : x = gz_end x := by
  rw [gz_z h h2]
  rfl
theorem gz_in_end (x : Int32) : gz_in x.toInt64 0 0 = if x = 0 then 1 else 0 := by
  unfold gz_in
  by_cases h : x = 0
  · rw [h]
    rfl
  · rw [if_neg h, if_neg]
    intro q
    have h2 : x.toInt64 = 0 := Int64.le_antisymm q.2 q.1
    apply h
    have h3 : x.toInt64.toInt32 = (0 : Int64).toInt32 := by rw [h2]
    simpa using h3
theorem gz_end_in0 {x r : Int32} (hw : r = gz_in x.toInt64 0 0) (h : r = 0) : (-1) = gz_end x := by
  rw [gz_in_end] at hw
  unfold gz_end
  split at hw
  · rw [h] at hw
    exact absurd hw (by decide)
  · rename_i hx
    rw [if_neg hx]
theorem gz_end_in1 {x r : Int32} (hw : r = gz_in x.toInt64 0 0) (h : ¬ r = 0) : x = gz_end x := by
  rw [gz_in_end] at hw
  split at hw
  · rename_i hx
    rw [hx]
    rfl
  · exact absurd hw h
end
section
/-- what a new object of each kind holds (r: where its parts lie) -/
abbrev fsX (r : Nat → Nat) : List Value := [.ref (r 0), .ref (r 1), .ref (r 2), .ref (r 3), .ref (r 4), .ref (r 5), .ref (r 6), .ref (r 7), .ref (r 8), .ref (r 9), .ref (r 10), .int 0, .int 0, .int (-1), .int 0, .int 0]
abbrev fsR (r : Nat → Nat) : List Value := [.ref (r 11), .ref (r 12), .int 0, .int (-1), .int 0, .int 0, .int 0]
abbrev fsT (r : Nat → Nat) : List Value := [.ref (r 13), .int 0]
abbrev fsA (r : Nat → Nat) : List Value := [.int 0, .int 0, .int 0, .int 0, .int 0, .int 0, .int 0, .int 0, .int 0, .int 0, .ref (r 14), .ref (r 15), .ref (r 16)]
abbrev fsD (r : Nat → Nat) : List Value := [.int 0, .int 0, .int 0, .int 0, .int 0, .int 0, .int 0, .int 0, .int 0, .int 0, .ref (r 17), .ref (r 18), .ref (r 19)]
abbrev fsM (r : Nat → Nat) : List Value := [.int 0, .int 0, .int 0, .int 0, .int 0, .int 0, .int 0, .int 0, .ref (r 0), .ref (r 1), .int 0, .ref (r 2), .ref (r 3), .ref (r 4), .ref (r 5), .ref (r 6), .ref (r 7), .int 0, .ref (r 8), .ref (r 9), .ref (r 10), .ref (r 11), .ref (r 12), .int 0, .int 0, .ref (r 13), .int 0, .int 0, .int (-1), .int 0, .int 0, .int 0, .int 0, .int 0, .ref (r 14), .ref (r 15), .ref (r 16), .int 0, .ref (r 17), .ref (r 18), .ref (r 19), .int 0, .int (-1), .int (-1), .int (-1), .int (-1), .ref (r 20), .int 0, .int 0, .int 0, .int 0, .int 0, .ref (r 21), .ref (r 22), .int 0, .ref (r 23), .int 0]
theorem dfX3 : ∀ j, j < 5 → defaultValue (tyX3 j) = vp_V [.int 0, .int 0, .int 0, .null, .null] j := by decide +kernel
theorem dfX5 : ∀ j, j < 2 → defaultValue (tyX5 j) = vp_V [.int 0, .int 0] j := by decide +kernel
theorem dfX7 : ∀ j, j < 6 → defaultValue (tyX7 j) = vp_V [.int 0, .int 0, .int 0, .int 0, .int 0, .int 0] j := by decide +kernel
theorem dfX2 : ∀ j, j < 4 → defaultValue (tyX2 j) = vp_V [.int 0, .int 0, .int 0, .int 0] j := by decide +kernel
theorem dfX10 : ∀ j, j < 2 → defaultValue (tyX10 j) = vp_V [.null, .int 0] j := by decide +kernel
theorem dfX0 : ∀ j, j < 13 → defaultValue (tyX0 j) = vp_V [.int 0, .int 0, .int 0, .int 0, .int 0, .int 0, .int 0, .int 0, .int 0, .int 0, .null, .null, .null] j := by decide +kernel
theorem dfX6 : ∀ j, j < 7 → defaultValue (tyX6 j) = vp_V [.null, .null, .int 0, .int 0, .int 0, .int 0, .int 0] j := by decide +kernel
theorem dfX1 : ∀ j, j < 7 → defaultValue (tyX1 j) = vp_V [.null, .null, .null, .null, .null, .int 0, .int 0] j := by decide +kernel
theorem dfX9 : ∀ j, j < 6 → defaultValue (tyX9 j) = vp_V [.null, .null, .null, .int 0, .int 0, .int 0] j := by decide +kernel
theorem dfX8 : ∀ j, j < 5 → defaultValue (tyX8 j) = vp_V [.null, .null, .int 0, .int 0, .int 0] j := by decide +kernel
theorem dfX4 : ∀ j, j < 3 → defaultValue (tyX4 j) = vp_V [.null, .null, .int 0] j := by decide +kernel
end
section
set_option maxRecDepth 100000 in
def wsGA : List Cond := [Cond.fieldLink RX11 19 "SightedMonths" "almanac" "LSightedMonths$Almanac;", Cond.fieldLink RX11 120 "SightedMonths$Almanac" "months" "I", Cond.code yX11_isTold cX11_isTold 1 (some .boolean), Cond.methodLink RX11 395 yX11_isTold, Cond.instanceMethod yX11_isTold, Cond.selects RX11 yX11_isTold yX11_isTold, Cond.initialized RX11, Cond.fieldLink RX11 129 "SightedMonths$Almanac" "placeCount" "I", Cond.fieldLink RX11 132 "SightedMonths$Almanac" "reportCount" "I", Cond.fieldLink RX11 135 "SightedMonths$Almanac" "deedCount" "I", Cond.code yX11_hasPlace cX11_hasPlace 2 (some .boolean), Cond.methodLink RX11 144 yX11_hasPlace, Cond.instanceMethod yX11_hasPlace, Cond.selects RX11 yX11_hasPlace yX11_hasPlace, Cond.code yX11_hasReport cX11_hasReport 2 (some .boolean), Cond.methodLink RX11 164 yX11_hasReport, Cond.instanceMethod yX11_hasReport, Cond.selects RX11 yX11_hasReport yX11_hasReport, Cond.code yX11_hasDeed cX11_hasDeed 2 (some .boolean), Cond.methodLink RX11 191 yX11_hasDeed, Cond.instanceMethod yX11_hasDeed, Cond.selects RX11 yX11_hasDeed yX11_hasDeed, Cond.fieldLink RX11 206 "SightedMonths$Almanac" "hasMoon" "Z", Cond.code yX11_hasTime cX11_hasTime 2 (some .boolean), Cond.methodLink RX11 216 yX11_hasTime, Cond.instanceMethod yX11_hasTime, Cond.selects RX11 yX11_hasTime yX11_hasTime, Cond.code yX11_hasMonth cX11_hasMonth 4 (some .boolean), Cond.methodLink RX11 209 yX11_hasMonth, Cond.instanceMethod yX11_hasMonth, Cond.selects RX11 yX11_hasMonth yX11_hasMonth, Cond.fieldLink RX11 12 "SightedMonths" "reader" "LSightedMonths$Reader;", Cond.fieldLink RX11 117 "SightedMonths$Reader" "faultPlace" "I", Cond.fieldLink RX11 105 "SightedMonths$Reader" "faultKind" "I", Cond.fieldLink RX11 123 "SightedMonths$Almanac" "full" "I", Cond.fieldLink RX11 126 "SightedMonths$Almanac" "lean" "I", Cond.fieldLink RX11 114 "SightedMonths$Almanac" "lines" "I", Cond.fieldLink RX11 89 "SightedMonths$Reader" "tape" "LSightedMonths$Tape;", Cond.fieldLink RX11 93 "SightedMonths$Tape" "length" "I", Cond.fieldLink RX11 72 "SightedMonths" "outLength" "I", Cond.fieldLink RX11 138 "SightedMonths$Almanac" "moonStart" "I", Cond.fieldLink RX11 141 "SightedMonths$Almanac" "moonStep" "I", Cond.methodLink RX5 1 objectInit, Cond.instanceMethod objectInit, Cond.code objectInit ⟨#[0xb1]⟩ 1 none, Cond.methodLink RX7 1 objectInit, Cond.methodLink RX2 1 objectInit, Cond.methodLink RX3 3 objectInit, Cond.arrayClass .int, Cond.fieldLink RX3 9 "SightedMonths$Frame" "allowed" "[I", Cond.fieldLink RX3 15 "SightedMonths$Frame" "onward" "[I", Cond.methodLink RX9 3 objectInit, Cond.fieldLink RX9 9 "SightedMonths$Tally" "before" "[I", Cond.fieldLink RX9 15 "SightedMonths$Tally" "behind" "[I", Cond.fieldLink RX9 18 "SightedMonths$Tally" "starts" "[I", Cond.methodLink RX8 3 objectInit, Cond.fieldLink RX8 9 "SightedMonths$Search" "costs" "[I", Cond.fieldLink RX8 15 "SightedMonths$Search" "leasts" "[I", Cond.methodLink RX4 3 objectInit, Cond.fieldLink RX4 11 "SightedMonths$History" "since" "[I", Cond.fieldLink RX4 15 "SightedMonths$History" "begins" "[I", Cond.fieldLink RX4 18 "SightedMonths$History" "eras" "I", Cond.methodLink RX1 3 objectInit, Cond.classLink RX1 9 RX3, Cond.instantiable RX3 5, Cond.initialized RX3, Cond.code yX3_init cX3_init 1 none, Cond.instanceMethod yX3_init, Cond.fieldLink RX1 12 "SightedMonths$Court" "frame" "LSightedMonths$Frame;", Cond.fieldLink RX1 18 "SightedMonths$Court" "verdicts" "[I", Cond.fieldLink RX1 22 "SightedMonths$Court" "queue" "[I", Cond.arrayClass .long, Cond.fieldLink RX1 25 "SightedMonths$Court" "turns" "[J", Cond.fieldLink RX1 29 "SightedMonths$Court" "begins" "[I", Cond.fieldLink RX1 32 "SightedMonths$Court" "queueLength" "I", Cond.fieldLink RX1 36 "SightedMonths$Court" "takenBits" "I", Cond.methodLink RX10 3 objectInit, Cond.arrayClass .byte, Cond.fieldLink RX10 9 "SightedMonths$Tape" "bytes" "[B", Cond.fieldLink RX10 15 "SightedMonths$Tape" "length" "I", Cond.methodLink RX0 3 objectInit, Cond.classLink RX0 9 RX5, Cond.fieldLink RX0 11 "SightedMonths$Almanac" "places" "[LSightedMonths$Place;", Cond.classLink RX0 17 RX7, Cond.fieldLink RX0 19 "SightedMonths$Almanac" "reports" "[LSightedMonths$Report;", Cond.classLink RX0 23 RX2, Cond.fieldLink RX0 25 "SightedMonths$Almanac" "deeds" "[LSightedMonths$Deed;", Cond.instantiable RX5 2, Cond.initialized RX5, Cond.code yX5_init cX5_init 1 none, Cond.instanceMethod yX5_init, Cond.instantiable RX7 6, Cond.initialized RX7, Cond.code yX7_init cX7_init 1 none, Cond.instanceMethod yX7_init, Cond.instantiable RX2 4, Cond.initialized RX2, Cond.code yX2_init cX2_init 1 none, Cond.instanceMethod yX2_init, Cond.methodLink RX6 3 objectInit, Cond.classLink RX6 9 RX10, Cond.instantiable RX10 2, Cond.initialized RX10, Cond.code yX10_init cX10_init 1 none, Cond.instanceMethod yX10_init, Cond.fieldLink RX6 12 "SightedMonths$Reader" "tape" "LSightedMonths$Tape;", Cond.classLink RX6 18 RX0, Cond.instantiable RX0 13, Cond.initialized RX0, Cond.code yX0_init cX0_init 2 none, Cond.methodLink RX6 20 yX0_init, Cond.instanceMethod yX0_init, Cond.fieldLink RX6 21 "SightedMonths$Reader" "draft" "LSightedMonths$Almanac;", Cond.fieldLink RX6 25 "SightedMonths$Reader" "faultKind" "I", Cond.fieldLink RX6 29 "SightedMonths$Reader" "faultPlace" "I", Cond.fieldLink RX6 32 "SightedMonths$Reader" "token" "I", Cond.fieldLink RX6 35 "SightedMonths$Reader" "start" "I", Cond.fieldLink RX6 38 "SightedMonths$Reader" "stop" "I", Cond.methodLink RX11 3 objectInit, Cond.classLink RX11 9 RX6, Cond.instantiable RX6 7, Cond.initialized RX6, Cond.code yX6_init cX6_init 1 none, Cond.instanceMethod yX6_init, Cond.classLink RX11 16 RX0, Cond.methodLink RX11 18 yX0_init, Cond.fieldLink RX11 23 "SightedMonths" "spare" "LSightedMonths$Almanac;", Cond.classLink RX11 26 RX3, Cond.fieldLink RX11 29 "SightedMonths" "freeFrame" "LSightedMonths$Frame;", Cond.classLink RX11 33 RX1, Cond.instantiable RX1 7, Cond.initialized RX1, Cond.code yX1_init cX1_init 1 none, Cond.instanceMethod yX1_init, Cond.fieldLink RX11 36 "SightedMonths" "court" "LSightedMonths$Court;", Cond.fieldLink RX11 40 "SightedMonths" "otherCourt" "LSightedMonths$Court;", Cond.classLink RX11 43 RX9, Cond.instantiable RX9 6, Cond.initialized RX9, Cond.code yX9_init cX9_init 1 none, Cond.instanceMethod yX9_init, Cond.fieldLink RX11 46 "SightedMonths" "tally" "LSightedMonths$Tally;", Cond.classLink RX11 50 RX8, Cond.instantiable RX8 5, Cond.initialized RX8, Cond.code yX8_init cX8_init 1 none, Cond.instanceMethod yX8_init, Cond.fieldLink RX11 53 "SightedMonths" "search" "LSightedMonths$Search;", Cond.classLink RX11 57 RX4, Cond.instantiable RX4 3, Cond.initialized RX4, Cond.code yX4_init cX4_init 1 none, Cond.instanceMethod yX4_init, Cond.fieldLink RX11 60 "SightedMonths" "history" "LSightedMonths$History;", Cond.fieldLink RX11 64 "SightedMonths" "kept" "[I", Cond.fieldLink RX11 68 "SightedMonths" "out" "[B", Cond.fieldLink RX11 76 "SightedMonths" "courtStands" "Z", Cond.fieldLink RX11 80 "SightedMonths" "courtNews" "I", Cond.fieldLink RX11 83 "SightedMonths" "tallyStands" "Z", Cond.fieldLink RX11 86 "SightedMonths" "historyStands" "Z", Cond.code yX10_put cX10_put 2 none, Cond.methodLink RX11 98 yX10_put, Cond.instanceMethod yX10_put, Cond.selects RX10 yX10_put yX10_put, Cond.fieldLink RX0 32 "SightedMonths$Almanac" "months" "I", Cond.fieldLink RX0 36 "SightedMonths$Almanac" "full" "I", Cond.fieldLink RX0 39 "SightedMonths$Almanac" "lean" "I", Cond.fieldLink RX0 42 "SightedMonths$Almanac" "lines" "I", Cond.fieldLink RX0 45 "SightedMonths$Almanac" "hasMoon" "Z", Cond.fieldLink RX0 49 "SightedMonths$Almanac" "moonStart" "I", Cond.fieldLink RX0 52 "SightedMonths$Almanac" "moonStep" "I", Cond.fieldLink RX0 55 "SightedMonths$Almanac" "placeCount" "I", Cond.fieldLink RX0 58 "SightedMonths$Almanac" "reportCount" "I", Cond.fieldLink RX0 61 "SightedMonths$Almanac" "deedCount" "I", Cond.fieldLink RX6 205 "SightedMonths$Tape" "length" "I", Cond.code yX6_byteAt cX6_byteAt 2 (some .int), Cond.methodLink RX6 181 yX6_byteAt, Cond.instanceMethod yX6_byteAt, Cond.selects RX6 yX6_byteAt yX6_byteAt, Cond.code yX0_wipe cX0_wipe 1 none, Cond.methodLink RX6 41 yX0_wipe, Cond.instanceMethod yX0_wipe, Cond.selects RX0 yX0_wipe yX0_wipe, Cond.code yX6_step cX6_step 2 none, Cond.methodLink RX6 44 yX6_step, Cond.instanceMethod yX6_step, Cond.selects RX6 yX6_step yX6_step, Cond.code yX6_read cX6_read 2 none, Cond.methodLink RX11 102 yX6_read, Cond.instanceMethod yX6_read, Cond.selects RX6 yX6_read yX6_read, Cond.fieldLink RX11 108 "SightedMonths$Reader" "draft" "LSightedMonths$Almanac;", Cond.code yX11_forget cX11_forget 1 none, Cond.methodLink RX11 111 yX11_forget, Cond.instanceMethod yX11_forget, Cond.selects RX11 yX11_forget yX11_forget] ++ wsX110 ++ wsX00 ++ wsX60 ++ wsX100 ++ wsX30 ++ wsX90 ++ wsX80 ++ wsX40 ++ wsX10 ++ wsX50 ++ wsX70 ++ wsX20
theorem mGA_0 : Cond.fieldLink RX11 19 "SightedMonths" "almanac" "LSightedMonths$Almanac;" ∈ wsGA := List.mem_of_getElem? (i := 0) (by decide +kernel)
theorem mGA_1 : Cond.fieldLink RX11 120 "SightedMonths$Almanac" "months" "I" ∈ wsGA := List.mem_of_getElem? (i := 1) (by decide +kernel)
theorem mGA_2 : Cond.code yX11_isTold cX11_isTold 1 (some .boolean) ∈ wsGA := List.mem_of_getElem? (i := 2) (by decide +kernel)
theorem mGA_3 : Cond.methodLink RX11 395 yX11_isTold ∈ wsGA := List.mem_of_getElem? (i := 3) (by decide +kernel)
theorem mGA_4 : Cond.instanceMethod yX11_isTold ∈ wsGA := List.mem_of_getElem? (i := 4) (by decide +kernel)
theorem mGA_5 : Cond.selects RX11 yX11_isTold yX11_isTold ∈ wsGA := List.mem_of_getElem? (i := 5) (by decide +kernel)
theorem mGA_6 : Cond.initialized RX11 ∈ wsGA := List.mem_of_getElem? (i := 6) (by decide +kernel)
theorem mGA_7 : Cond.fieldLink RX11 129 "SightedMonths$Almanac" "placeCount" "I" ∈ wsGA := List.mem_of_getElem? (i := 7) (by decide +kernel)
theorem mGA_8 : Cond.fieldLink RX11 132 "SightedMonths$Almanac" "reportCount" "I" ∈ wsGA := List.mem_of_getElem? (i := 8) (by decide +kernel)
theorem mGA_9 : Cond.fieldLink RX11 135 "SightedMonths$Almanac" "deedCount" "I" ∈ wsGA := List.mem_of_getElem? (i := 9) (by decide +kernel)
theorem mGA_10 : Cond.code yX11_hasPlace cX11_hasPlace 2 (some .boolean) ∈ wsGA := List.mem_of_getElem? (i := 10) (by decide +kernel)
theorem mGA_11 : Cond.methodLink RX11 144 yX11_hasPlace ∈ wsGA := List.mem_of_getElem? (i := 11) (by decide +kernel)
theorem mGA_12 : Cond.instanceMethod yX11_hasPlace ∈ wsGA := List.mem_of_getElem? (i := 12) (by decide +kernel)
theorem mGA_13 : Cond.selects RX11 yX11_hasPlace yX11_hasPlace ∈ wsGA := List.mem_of_getElem? (i := 13) (by decide +kernel)
theorem mGA_14 : Cond.code yX11_hasReport cX11_hasReport 2 (some .boolean) ∈ wsGA := List.mem_of_getElem? (i := 14) (by decide +kernel)
theorem mGA_15 : Cond.methodLink RX11 164 yX11_hasReport ∈ wsGA := List.mem_of_getElem? (i := 15) (by decide +kernel)
theorem mGA_16 : Cond.instanceMethod yX11_hasReport ∈ wsGA := List.mem_of_getElem? (i := 16) (by decide +kernel)
theorem mGA_17 : Cond.selects RX11 yX11_hasReport yX11_hasReport ∈ wsGA := List.mem_of_getElem? (i := 17) (by decide +kernel)
theorem mGA_18 : Cond.code yX11_hasDeed cX11_hasDeed 2 (some .boolean) ∈ wsGA := List.mem_of_getElem? (i := 18) (by decide +kernel)
theorem mGA_19 : Cond.methodLink RX11 191 yX11_hasDeed ∈ wsGA := List.mem_of_getElem? (i := 19) (by decide +kernel)
theorem mGA_20 : Cond.instanceMethod yX11_hasDeed ∈ wsGA := List.mem_of_getElem? (i := 20) (by decide +kernel)
theorem mGA_21 : Cond.selects RX11 yX11_hasDeed yX11_hasDeed ∈ wsGA := List.mem_of_getElem? (i := 21) (by decide +kernel)
theorem mGA_22 : Cond.fieldLink RX11 206 "SightedMonths$Almanac" "hasMoon" "Z" ∈ wsGA := List.mem_of_getElem? (i := 22) (by decide +kernel)
theorem mGA_23 : Cond.code yX11_hasTime cX11_hasTime 2 (some .boolean) ∈ wsGA := List.mem_of_getElem? (i := 23) (by decide +kernel)
theorem mGA_24 : Cond.methodLink RX11 216 yX11_hasTime ∈ wsGA := List.mem_of_getElem? (i := 24) (by decide +kernel)
theorem mGA_25 : Cond.instanceMethod yX11_hasTime ∈ wsGA := List.mem_of_getElem? (i := 25) (by decide +kernel)
theorem mGA_26 : Cond.selects RX11 yX11_hasTime yX11_hasTime ∈ wsGA := List.mem_of_getElem? (i := 26) (by decide +kernel)
theorem mGA_27 : Cond.code yX11_hasMonth cX11_hasMonth 4 (some .boolean) ∈ wsGA := List.mem_of_getElem? (i := 27) (by decide +kernel)
theorem mGA_28 : Cond.methodLink RX11 209 yX11_hasMonth ∈ wsGA := List.mem_of_getElem? (i := 28) (by decide +kernel)
theorem mGA_29 : Cond.instanceMethod yX11_hasMonth ∈ wsGA := List.mem_of_getElem? (i := 29) (by decide +kernel)
theorem mGA_30 : Cond.selects RX11 yX11_hasMonth yX11_hasMonth ∈ wsGA := List.mem_of_getElem? (i := 30) (by decide +kernel)
theorem mGA_31 : Cond.fieldLink RX11 12 "SightedMonths" "reader" "LSightedMonths$Reader;" ∈ wsGA := List.mem_of_getElem? (i := 31) (by decide +kernel)
theorem mGA_32 : Cond.fieldLink RX11 117 "SightedMonths$Reader" "faultPlace" "I" ∈ wsGA := List.mem_of_getElem? (i := 32) (by decide +kernel)
theorem mGA_33 : Cond.fieldLink RX11 105 "SightedMonths$Reader" "faultKind" "I" ∈ wsGA := List.mem_of_getElem? (i := 33) (by decide +kernel)
theorem mGA_34 : Cond.fieldLink RX11 123 "SightedMonths$Almanac" "full" "I" ∈ wsGA := List.mem_of_getElem? (i := 34) (by decide +kernel)
theorem mGA_35 : Cond.fieldLink RX11 126 "SightedMonths$Almanac" "lean" "I" ∈ wsGA := List.mem_of_getElem? (i := 35) (by decide +kernel)
theorem mGA_36 : Cond.fieldLink RX11 114 "SightedMonths$Almanac" "lines" "I" ∈ wsGA := List.mem_of_getElem? (i := 36) (by decide +kernel)
theorem mGA_37 : Cond.fieldLink RX11 89 "SightedMonths$Reader" "tape" "LSightedMonths$Tape;" ∈ wsGA := List.mem_of_getElem? (i := 37) (by decide +kernel)
theorem mGA_38 : Cond.fieldLink RX11 93 "SightedMonths$Tape" "length" "I" ∈ wsGA := List.mem_of_getElem? (i := 38) (by decide +kernel)
theorem mGA_39 : Cond.fieldLink RX11 72 "SightedMonths" "outLength" "I" ∈ wsGA := List.mem_of_getElem? (i := 39) (by decide +kernel)
theorem mGA_40 : Cond.fieldLink RX11 138 "SightedMonths$Almanac" "moonStart" "I" ∈ wsGA := List.mem_of_getElem? (i := 40) (by decide +kernel)
theorem mGA_41 : Cond.fieldLink RX11 141 "SightedMonths$Almanac" "moonStep" "I" ∈ wsGA := List.mem_of_getElem? (i := 41) (by decide +kernel)
theorem mGA_42 : Cond.methodLink RX5 1 objectInit ∈ wsGA := List.mem_of_getElem? (i := 42) (by decide +kernel)
theorem mGA_43 : Cond.instanceMethod objectInit ∈ wsGA := List.mem_of_getElem? (i := 43) (by decide +kernel)
theorem mGA_44 : Cond.code objectInit ⟨#[0xb1]⟩ 1 none ∈ wsGA := List.mem_of_getElem? (i := 44) (by decide +kernel)
theorem mGA_45 : Cond.methodLink RX7 1 objectInit ∈ wsGA := List.mem_of_getElem? (i := 45) (by decide +kernel)
theorem mGA_46 : Cond.methodLink RX2 1 objectInit ∈ wsGA := List.mem_of_getElem? (i := 46) (by decide +kernel)
theorem mGA_47 : Cond.methodLink RX3 3 objectInit ∈ wsGA := List.mem_of_getElem? (i := 47) (by decide +kernel)
theorem mGA_48 : Cond.arrayClass .int ∈ wsGA := List.mem_of_getElem? (i := 48) (by decide +kernel)
theorem mGA_49 : Cond.fieldLink RX3 9 "SightedMonths$Frame" "allowed" "[I" ∈ wsGA := List.mem_of_getElem? (i := 49) (by decide +kernel)
theorem mGA_50 : Cond.fieldLink RX3 15 "SightedMonths$Frame" "onward" "[I" ∈ wsGA := List.mem_of_getElem? (i := 50) (by decide +kernel)
theorem mGA_51 : Cond.methodLink RX9 3 objectInit ∈ wsGA := List.mem_of_getElem? (i := 51) (by decide +kernel)
theorem mGA_52 : Cond.fieldLink RX9 9 "SightedMonths$Tally" "before" "[I" ∈ wsGA := List.mem_of_getElem? (i := 52) (by decide +kernel)
theorem mGA_53 : Cond.fieldLink RX9 15 "SightedMonths$Tally" "behind" "[I" ∈ wsGA := List.mem_of_getElem? (i := 53) (by decide +kernel)
theorem mGA_54 : Cond.fieldLink RX9 18 "SightedMonths$Tally" "starts" "[I" ∈ wsGA := List.mem_of_getElem? (i := 54) (by decide +kernel)
theorem mGA_55 : Cond.methodLink RX8 3 objectInit ∈ wsGA := List.mem_of_getElem? (i := 55) (by decide +kernel)
theorem mGA_56 : Cond.fieldLink RX8 9 "SightedMonths$Search" "costs" "[I" ∈ wsGA := List.mem_of_getElem? (i := 56) (by decide +kernel)
theorem mGA_57 : Cond.fieldLink RX8 15 "SightedMonths$Search" "leasts" "[I" ∈ wsGA := List.mem_of_getElem? (i := 57) (by decide +kernel)
theorem mGA_58 : Cond.methodLink RX4 3 objectInit ∈ wsGA := List.mem_of_getElem? (i := 58) (by decide +kernel)
theorem mGA_59 : Cond.fieldLink RX4 11 "SightedMonths$History" "since" "[I" ∈ wsGA := List.mem_of_getElem? (i := 59) (by decide +kernel)
theorem mGA_60 : Cond.fieldLink RX4 15 "SightedMonths$History" "begins" "[I" ∈ wsGA := List.mem_of_getElem? (i := 60) (by decide +kernel)
theorem mGA_61 : Cond.fieldLink RX4 18 "SightedMonths$History" "eras" "I" ∈ wsGA := List.mem_of_getElem? (i := 61) (by decide +kernel)
theorem mGA_62 : Cond.methodLink RX1 3 objectInit ∈ wsGA := List.mem_of_getElem? (i := 62) (by decide +kernel)
theorem mGA_63 : Cond.classLink RX1 9 RX3 ∈ wsGA := List.mem_of_getElem? (i := 63) (by decide +kernel)
theorem mGA_64 : Cond.instantiable RX3 5 ∈ wsGA := List.mem_of_getElem? (i := 64) (by decide +kernel)
theorem mGA_65 : Cond.initialized RX3 ∈ wsGA := List.mem_of_getElem? (i := 65) (by decide +kernel)
theorem mGA_66 : Cond.code yX3_init cX3_init 1 none ∈ wsGA := List.mem_of_getElem? (i := 66) (by decide +kernel)
theorem mGA_67 : Cond.instanceMethod yX3_init ∈ wsGA := List.mem_of_getElem? (i := 67) (by decide +kernel)
theorem mGA_68 : Cond.fieldLink RX1 12 "SightedMonths$Court" "frame" "LSightedMonths$Frame;" ∈ wsGA := List.mem_of_getElem? (i := 68) (by decide +kernel)
theorem mGA_69 : Cond.fieldLink RX1 18 "SightedMonths$Court" "verdicts" "[I" ∈ wsGA := List.mem_of_getElem? (i := 69) (by decide +kernel)
theorem mGA_70 : Cond.fieldLink RX1 22 "SightedMonths$Court" "queue" "[I" ∈ wsGA := List.mem_of_getElem? (i := 70) (by decide +kernel)
theorem mGA_71 : Cond.arrayClass .long ∈ wsGA := List.mem_of_getElem? (i := 71) (by decide +kernel)
theorem mGA_72 : Cond.fieldLink RX1 25 "SightedMonths$Court" "turns" "[J" ∈ wsGA := List.mem_of_getElem? (i := 72) (by decide +kernel)
theorem mGA_73 : Cond.fieldLink RX1 29 "SightedMonths$Court" "begins" "[I" ∈ wsGA := List.mem_of_getElem? (i := 73) (by decide +kernel)
theorem mGA_74 : Cond.fieldLink RX1 32 "SightedMonths$Court" "queueLength" "I" ∈ wsGA := List.mem_of_getElem? (i := 74) (by decide +kernel)
theorem mGA_75 : Cond.fieldLink RX1 36 "SightedMonths$Court" "takenBits" "I" ∈ wsGA := List.mem_of_getElem? (i := 75) (by decide +kernel)
theorem mGA_76 : Cond.methodLink RX10 3 objectInit ∈ wsGA := List.mem_of_getElem? (i := 76) (by decide +kernel)
theorem mGA_77 : Cond.arrayClass .byte ∈ wsGA := List.mem_of_getElem? (i := 77) (by decide +kernel)
theorem mGA_78 : Cond.fieldLink RX10 9 "SightedMonths$Tape" "bytes" "[B" ∈ wsGA := List.mem_of_getElem? (i := 78) (by decide +kernel)
theorem mGA_79 : Cond.fieldLink RX10 15 "SightedMonths$Tape" "length" "I" ∈ wsGA := List.mem_of_getElem? (i := 79) (by decide +kernel)
theorem mGA_80 : Cond.methodLink RX0 3 objectInit ∈ wsGA := List.mem_of_getElem? (i := 80) (by decide +kernel)
theorem mGA_81 : Cond.classLink RX0 9 RX5 ∈ wsGA := List.mem_of_getElem? (i := 81) (by decide +kernel)
theorem mGA_82 : Cond.fieldLink RX0 11 "SightedMonths$Almanac" "places" "[LSightedMonths$Place;" ∈ wsGA := List.mem_of_getElem? (i := 82) (by decide +kernel)
theorem mGA_83 : Cond.classLink RX0 17 RX7 ∈ wsGA := List.mem_of_getElem? (i := 83) (by decide +kernel)
theorem mGA_84 : Cond.fieldLink RX0 19 "SightedMonths$Almanac" "reports" "[LSightedMonths$Report;" ∈ wsGA := List.mem_of_getElem? (i := 84) (by decide +kernel)
theorem mGA_85 : Cond.classLink RX0 23 RX2 ∈ wsGA := List.mem_of_getElem? (i := 85) (by decide +kernel)
theorem mGA_86 : Cond.fieldLink RX0 25 "SightedMonths$Almanac" "deeds" "[LSightedMonths$Deed;" ∈ wsGA := List.mem_of_getElem? (i := 86) (by decide +kernel)
theorem mGA_87 : Cond.instantiable RX5 2 ∈ wsGA := List.mem_of_getElem? (i := 87) (by decide +kernel)
theorem mGA_88 : Cond.initialized RX5 ∈ wsGA := List.mem_of_getElem? (i := 88) (by decide +kernel)
theorem mGA_89 : Cond.code yX5_init cX5_init 1 none ∈ wsGA := List.mem_of_getElem? (i := 89) (by decide +kernel)
theorem mGA_90 : Cond.instanceMethod yX5_init ∈ wsGA := List.mem_of_getElem? (i := 90) (by decide +kernel)
theorem mGA_91 : Cond.instantiable RX7 6 ∈ wsGA := List.mem_of_getElem? (i := 91) (by decide +kernel)
theorem mGA_92 : Cond.initialized RX7 ∈ wsGA := List.mem_of_getElem? (i := 92) (by decide +kernel)
theorem mGA_93 : Cond.code yX7_init cX7_init 1 none ∈ wsGA := List.mem_of_getElem? (i := 93) (by decide +kernel)
theorem mGA_94 : Cond.instanceMethod yX7_init ∈ wsGA := List.mem_of_getElem? (i := 94) (by decide +kernel)
theorem mGA_95 : Cond.instantiable RX2 4 ∈ wsGA := List.mem_of_getElem? (i := 95) (by decide +kernel)
theorem mGA_96 : Cond.initialized RX2 ∈ wsGA := List.mem_of_getElem? (i := 96) (by decide +kernel)
theorem mGA_97 : Cond.code yX2_init cX2_init 1 none ∈ wsGA := List.mem_of_getElem? (i := 97) (by decide +kernel)
theorem mGA_98 : Cond.instanceMethod yX2_init ∈ wsGA := List.mem_of_getElem? (i := 98) (by decide +kernel)
theorem mGA_99 : Cond.methodLink RX6 3 objectInit ∈ wsGA := List.mem_of_getElem? (i := 99) (by decide +kernel)
theorem mGA_100 : Cond.classLink RX6 9 RX10 ∈ wsGA := List.mem_of_getElem? (i := 100) (by decide +kernel)
theorem mGA_101 : Cond.instantiable RX10 2 ∈ wsGA := List.mem_of_getElem? (i := 101) (by decide +kernel)
theorem mGA_102 : Cond.initialized RX10 ∈ wsGA := List.mem_of_getElem? (i := 102) (by decide +kernel)
theorem mGA_103 : Cond.code yX10_init cX10_init 1 none ∈ wsGA := List.mem_of_getElem? (i := 103) (by decide +kernel)
theorem mGA_104 : Cond.instanceMethod yX10_init ∈ wsGA := List.mem_of_getElem? (i := 104) (by decide +kernel)
theorem mGA_105 : Cond.fieldLink RX6 12 "SightedMonths$Reader" "tape" "LSightedMonths$Tape;" ∈ wsGA := List.mem_of_getElem? (i := 105) (by decide +kernel)
theorem mGA_106 : Cond.classLink RX6 18 RX0 ∈ wsGA := List.mem_of_getElem? (i := 106) (by decide +kernel)
theorem mGA_107 : Cond.instantiable RX0 13 ∈ wsGA := List.mem_of_getElem? (i := 107) (by decide +kernel)
theorem mGA_108 : Cond.initialized RX0 ∈ wsGA := List.mem_of_getElem? (i := 108) (by decide +kernel)
theorem mGA_109 : Cond.code yX0_init cX0_init 2 none ∈ wsGA := List.mem_of_getElem? (i := 109) (by decide +kernel)
theorem mGA_110 : Cond.methodLink RX6 20 yX0_init ∈ wsGA := List.mem_of_getElem? (i := 110) (by decide +kernel)
theorem mGA_111 : Cond.instanceMethod yX0_init ∈ wsGA := List.mem_of_getElem? (i := 111) (by decide +kernel)
theorem mGA_112 : Cond.fieldLink RX6 21 "SightedMonths$Reader" "draft" "LSightedMonths$Almanac;" ∈ wsGA := List.mem_of_getElem? (i := 112) (by decide +kernel)
theorem mGA_113 : Cond.fieldLink RX6 25 "SightedMonths$Reader" "faultKind" "I" ∈ wsGA := List.mem_of_getElem? (i := 113) (by decide +kernel)
theorem mGA_114 : Cond.fieldLink RX6 29 "SightedMonths$Reader" "faultPlace" "I" ∈ wsGA := List.mem_of_getElem? (i := 114) (by decide +kernel)
theorem mGA_115 : Cond.fieldLink RX6 32 "SightedMonths$Reader" "token" "I" ∈ wsGA := List.mem_of_getElem? (i := 115) (by decide +kernel)
theorem mGA_116 : Cond.fieldLink RX6 35 "SightedMonths$Reader" "start" "I" ∈ wsGA := List.mem_of_getElem? (i := 116) (by decide +kernel)
theorem mGA_117 : Cond.fieldLink RX6 38 "SightedMonths$Reader" "stop" "I" ∈ wsGA := List.mem_of_getElem? (i := 117) (by decide +kernel)
theorem mGA_118 : Cond.methodLink RX11 3 objectInit ∈ wsGA := List.mem_of_getElem? (i := 118) (by decide +kernel)
theorem mGA_119 : Cond.classLink RX11 9 RX6 ∈ wsGA := List.mem_of_getElem? (i := 119) (by decide +kernel)
theorem mGA_120 : Cond.instantiable RX6 7 ∈ wsGA := List.mem_of_getElem? (i := 120) (by decide +kernel)
theorem mGA_121 : Cond.initialized RX6 ∈ wsGA := List.mem_of_getElem? (i := 121) (by decide +kernel)
theorem mGA_122 : Cond.code yX6_init cX6_init 1 none ∈ wsGA := List.mem_of_getElem? (i := 122) (by decide +kernel)
theorem mGA_123 : Cond.instanceMethod yX6_init ∈ wsGA := List.mem_of_getElem? (i := 123) (by decide +kernel)
theorem mGA_124 : Cond.classLink RX11 16 RX0 ∈ wsGA := List.mem_of_getElem? (i := 124) (by decide +kernel)
theorem mGA_125 : Cond.methodLink RX11 18 yX0_init ∈ wsGA := List.mem_of_getElem? (i := 125) (by decide +kernel)
theorem mGA_126 : Cond.fieldLink RX11 23 "SightedMonths" "spare" "LSightedMonths$Almanac;" ∈ wsGA := List.mem_of_getElem? (i := 126) (by decide +kernel)
theorem mGA_127 : Cond.classLink RX11 26 RX3 ∈ wsGA := List.mem_of_getElem? (i := 127) (by decide +kernel)
theorem mGA_128 : Cond.fieldLink RX11 29 "SightedMonths" "freeFrame" "LSightedMonths$Frame;" ∈ wsGA := List.mem_of_getElem? (i := 128) (by decide +kernel)
theorem mGA_129 : Cond.classLink RX11 33 RX1 ∈ wsGA := List.mem_of_getElem? (i := 129) (by decide +kernel)
theorem mGA_130 : Cond.instantiable RX1 7 ∈ wsGA := List.mem_of_getElem? (i := 130) (by decide +kernel)
theorem mGA_131 : Cond.initialized RX1 ∈ wsGA := List.mem_of_getElem? (i := 131) (by decide +kernel)
theorem mGA_132 : Cond.code yX1_init cX1_init 1 none ∈ wsGA := List.mem_of_getElem? (i := 132) (by decide +kernel)
theorem mGA_133 : Cond.instanceMethod yX1_init ∈ wsGA := List.mem_of_getElem? (i := 133) (by decide +kernel)
theorem mGA_134 : Cond.fieldLink RX11 36 "SightedMonths" "court" "LSightedMonths$Court;" ∈ wsGA := List.mem_of_getElem? (i := 134) (by decide +kernel)
theorem mGA_135 : Cond.fieldLink RX11 40 "SightedMonths" "otherCourt" "LSightedMonths$Court;" ∈ wsGA := List.mem_of_getElem? (i := 135) (by decide +kernel)
theorem mGA_136 : Cond.classLink RX11 43 RX9 ∈ wsGA := List.mem_of_getElem? (i := 136) (by decide +kernel)
theorem mGA_137 : Cond.instantiable RX9 6 ∈ wsGA := List.mem_of_getElem? (i := 137) (by decide +kernel)
theorem mGA_138 : Cond.initialized RX9 ∈ wsGA := List.mem_of_getElem? (i := 138) (by decide +kernel)
theorem mGA_139 : Cond.code yX9_init cX9_init 1 none ∈ wsGA := List.mem_of_getElem? (i := 139) (by decide +kernel)
theorem mGA_140 : Cond.instanceMethod yX9_init ∈ wsGA := List.mem_of_getElem? (i := 140) (by decide +kernel)
theorem mGA_141 : Cond.fieldLink RX11 46 "SightedMonths" "tally" "LSightedMonths$Tally;" ∈ wsGA := List.mem_of_getElem? (i := 141) (by decide +kernel)
theorem mGA_142 : Cond.classLink RX11 50 RX8 ∈ wsGA := List.mem_of_getElem? (i := 142) (by decide +kernel)
theorem mGA_143 : Cond.instantiable RX8 5 ∈ wsGA := List.mem_of_getElem? (i := 143) (by decide +kernel)
theorem mGA_144 : Cond.initialized RX8 ∈ wsGA := List.mem_of_getElem? (i := 144) (by decide +kernel)
theorem mGA_145 : Cond.code yX8_init cX8_init 1 none ∈ wsGA := List.mem_of_getElem? (i := 145) (by decide +kernel)
theorem mGA_146 : Cond.instanceMethod yX8_init ∈ wsGA := List.mem_of_getElem? (i := 146) (by decide +kernel)
theorem mGA_147 : Cond.fieldLink RX11 53 "SightedMonths" "search" "LSightedMonths$Search;" ∈ wsGA := List.mem_of_getElem? (i := 147) (by decide +kernel)
theorem mGA_148 : Cond.classLink RX11 57 RX4 ∈ wsGA := List.mem_of_getElem? (i := 148) (by decide +kernel)
theorem mGA_149 : Cond.instantiable RX4 3 ∈ wsGA := List.mem_of_getElem? (i := 149) (by decide +kernel)
theorem mGA_150 : Cond.initialized RX4 ∈ wsGA := List.mem_of_getElem? (i := 150) (by decide +kernel)
theorem mGA_151 : Cond.code yX4_init cX4_init 1 none ∈ wsGA := List.mem_of_getElem? (i := 151) (by decide +kernel)
theorem mGA_152 : Cond.instanceMethod yX4_init ∈ wsGA := List.mem_of_getElem? (i := 152) (by decide +kernel)
theorem mGA_153 : Cond.fieldLink RX11 60 "SightedMonths" "history" "LSightedMonths$History;" ∈ wsGA := List.mem_of_getElem? (i := 153) (by decide +kernel)
theorem mGA_154 : Cond.fieldLink RX11 64 "SightedMonths" "kept" "[I" ∈ wsGA := List.mem_of_getElem? (i := 154) (by decide +kernel)
theorem mGA_155 : Cond.fieldLink RX11 68 "SightedMonths" "out" "[B" ∈ wsGA := List.mem_of_getElem? (i := 155) (by decide +kernel)
theorem mGA_156 : Cond.fieldLink RX11 76 "SightedMonths" "courtStands" "Z" ∈ wsGA := List.mem_of_getElem? (i := 156) (by decide +kernel)
theorem mGA_157 : Cond.fieldLink RX11 80 "SightedMonths" "courtNews" "I" ∈ wsGA := List.mem_of_getElem? (i := 157) (by decide +kernel)
theorem mGA_158 : Cond.fieldLink RX11 83 "SightedMonths" "tallyStands" "Z" ∈ wsGA := List.mem_of_getElem? (i := 158) (by decide +kernel)
theorem mGA_159 : Cond.fieldLink RX11 86 "SightedMonths" "historyStands" "Z" ∈ wsGA := List.mem_of_getElem? (i := 159) (by decide +kernel)
theorem mGA_160 : Cond.code yX10_put cX10_put 2 none ∈ wsGA := List.mem_of_getElem? (i := 160) (by decide +kernel)
theorem mGA_161 : Cond.methodLink RX11 98 yX10_put ∈ wsGA := List.mem_of_getElem? (i := 161) (by decide +kernel)
theorem mGA_162 : Cond.instanceMethod yX10_put ∈ wsGA := List.mem_of_getElem? (i := 162) (by decide +kernel)
theorem mGA_163 : Cond.selects RX10 yX10_put yX10_put ∈ wsGA := List.mem_of_getElem? (i := 163) (by decide +kernel)
theorem mGA_164 : Cond.fieldLink RX0 32 "SightedMonths$Almanac" "months" "I" ∈ wsGA := List.mem_of_getElem? (i := 164) (by decide +kernel)
theorem mGA_165 : Cond.fieldLink RX0 36 "SightedMonths$Almanac" "full" "I" ∈ wsGA := List.mem_of_getElem? (i := 165) (by decide +kernel)
theorem mGA_166 : Cond.fieldLink RX0 39 "SightedMonths$Almanac" "lean" "I" ∈ wsGA := List.mem_of_getElem? (i := 166) (by decide +kernel)
theorem mGA_167 : Cond.fieldLink RX0 42 "SightedMonths$Almanac" "lines" "I" ∈ wsGA := List.mem_of_getElem? (i := 167) (by decide +kernel)
theorem mGA_168 : Cond.fieldLink RX0 45 "SightedMonths$Almanac" "hasMoon" "Z" ∈ wsGA := List.mem_of_getElem? (i := 168) (by decide +kernel)
theorem mGA_169 : Cond.fieldLink RX0 49 "SightedMonths$Almanac" "moonStart" "I" ∈ wsGA := List.mem_of_getElem? (i := 169) (by decide +kernel)
theorem mGA_170 : Cond.fieldLink RX0 52 "SightedMonths$Almanac" "moonStep" "I" ∈ wsGA := List.mem_of_getElem? (i := 170) (by decide +kernel)
theorem mGA_171 : Cond.fieldLink RX0 55 "SightedMonths$Almanac" "placeCount" "I" ∈ wsGA := List.mem_of_getElem? (i := 171) (by decide +kernel)
theorem mGA_172 : Cond.fieldLink RX0 58 "SightedMonths$Almanac" "reportCount" "I" ∈ wsGA := List.mem_of_getElem? (i := 172) (by decide +kernel)
theorem mGA_173 : Cond.fieldLink RX0 61 "SightedMonths$Almanac" "deedCount" "I" ∈ wsGA := List.mem_of_getElem? (i := 173) (by decide +kernel)
theorem mGA_174 : Cond.fieldLink RX6 205 "SightedMonths$Tape" "length" "I" ∈ wsGA := List.mem_of_getElem? (i := 174) (by decide +kernel)
theorem mGA_175 : Cond.code yX6_byteAt cX6_byteAt 2 (some .int) ∈ wsGA := List.mem_of_getElem? (i := 175) (by decide +kernel)
theorem mGA_176 : Cond.methodLink RX6 181 yX6_byteAt ∈ wsGA := List.mem_of_getElem? (i := 176) (by decide +kernel)
theorem mGA_177 : Cond.instanceMethod yX6_byteAt ∈ wsGA := List.mem_of_getElem? (i := 177) (by decide +kernel)
theorem mGA_178 : Cond.selects RX6 yX6_byteAt yX6_byteAt ∈ wsGA := List.mem_of_getElem? (i := 178) (by decide +kernel)
theorem mGA_179 : Cond.code yX0_wipe cX0_wipe 1 none ∈ wsGA := List.mem_of_getElem? (i := 179) (by decide +kernel)
theorem mGA_180 : Cond.methodLink RX6 41 yX0_wipe ∈ wsGA := List.mem_of_getElem? (i := 180) (by decide +kernel)
theorem mGA_181 : Cond.instanceMethod yX0_wipe ∈ wsGA := List.mem_of_getElem? (i := 181) (by decide +kernel)
theorem mGA_182 : Cond.selects RX0 yX0_wipe yX0_wipe ∈ wsGA := List.mem_of_getElem? (i := 182) (by decide +kernel)
theorem mGA_183 : Cond.code yX6_step cX6_step 2 none ∈ wsGA := List.mem_of_getElem? (i := 183) (by decide +kernel)
theorem mGA_184 : Cond.methodLink RX6 44 yX6_step ∈ wsGA := List.mem_of_getElem? (i := 184) (by decide +kernel)
theorem mGA_185 : Cond.instanceMethod yX6_step ∈ wsGA := List.mem_of_getElem? (i := 185) (by decide +kernel)
theorem mGA_186 : Cond.selects RX6 yX6_step yX6_step ∈ wsGA := List.mem_of_getElem? (i := 186) (by decide +kernel)
theorem mGA_187 : Cond.code yX6_read cX6_read 2 none ∈ wsGA := List.mem_of_getElem? (i := 187) (by decide +kernel)
theorem mGA_188 : Cond.methodLink RX11 102 yX6_read ∈ wsGA := List.mem_of_getElem? (i := 188) (by decide +kernel)
theorem mGA_189 : Cond.instanceMethod yX6_read ∈ wsGA := List.mem_of_getElem? (i := 189) (by decide +kernel)
theorem mGA_190 : Cond.selects RX6 yX6_read yX6_read ∈ wsGA := List.mem_of_getElem? (i := 190) (by decide +kernel)
theorem mGA_191 : Cond.fieldLink RX11 108 "SightedMonths$Reader" "draft" "LSightedMonths$Almanac;" ∈ wsGA := List.mem_of_getElem? (i := 191) (by decide +kernel)
theorem mGA_192 : Cond.code yX11_forget cX11_forget 1 none ∈ wsGA := List.mem_of_getElem? (i := 192) (by decide +kernel)
theorem mGA_193 : Cond.methodLink RX11 111 yX11_forget ∈ wsGA := List.mem_of_getElem? (i := 193) (by decide +kernel)
theorem mGA_194 : Cond.instanceMethod yX11_forget ∈ wsGA := List.mem_of_getElem? (i := 194) (by decide +kernel)
theorem mGA_195 : Cond.selects RX11 yX11_forget yX11_forget ∈ wsGA := List.mem_of_getElem? (i := 195) (by decide +kernel)
theorem jnGA_X11 : ∀ w ∈ wsX110, w ∈ wsGA := fun _ h => List.mem_append_left _ (List.mem_append_left _ (List.mem_append_left _ (List.mem_append_left _ (List.mem_append_left _ (List.mem_append_left _ (List.mem_append_left _ (List.mem_append_left _ (List.mem_append_left _ (List.mem_append_left _ (List.mem_append_left _ (List.mem_append_right _ h)))))))))))
theorem jnGA_X0 : ∀ w ∈ wsX00, w ∈ wsGA := fun _ h => List.mem_append_left _ (List.mem_append_left _ (List.mem_append_left _ (List.mem_append_left _ (List.mem_append_left _ (List.mem_append_left _ (List.mem_append_left _ (List.mem_append_left _ (List.mem_append_left _ (List.mem_append_left _ (List.mem_append_right _ h))))))))))
theorem jnGA_X6 : ∀ w ∈ wsX60, w ∈ wsGA := fun _ h => List.mem_append_left _ (List.mem_append_left _ (List.mem_append_left _ (List.mem_append_left _ (List.mem_append_left _ (List.mem_append_left _ (List.mem_append_left _ (List.mem_append_left _ (List.mem_append_left _ (List.mem_append_right _ h)))))))))
theorem jnGA_X10 : ∀ w ∈ wsX100, w ∈ wsGA := fun _ h => List.mem_append_left _ (List.mem_append_left _ (List.mem_append_left _ (List.mem_append_left _ (List.mem_append_left _ (List.mem_append_left _ (List.mem_append_left _ (List.mem_append_left _ (List.mem_append_right _ h))))))))
theorem jnGA_X3 : ∀ w ∈ wsX30, w ∈ wsGA := fun _ h => List.mem_append_left _ (List.mem_append_left _ (List.mem_append_left _ (List.mem_append_left _ (List.mem_append_left _ (List.mem_append_left _ (List.mem_append_left _ (List.mem_append_right _ h)))))))
theorem jnGA_X9 : ∀ w ∈ wsX90, w ∈ wsGA := fun _ h => List.mem_append_left _ (List.mem_append_left _ (List.mem_append_left _ (List.mem_append_left _ (List.mem_append_left _ (List.mem_append_left _ (List.mem_append_right _ h))))))
theorem jnGA_X8 : ∀ w ∈ wsX80, w ∈ wsGA := fun _ h => List.mem_append_left _ (List.mem_append_left _ (List.mem_append_left _ (List.mem_append_left _ (List.mem_append_left _ (List.mem_append_right _ h)))))
theorem jnGA_X4 : ∀ w ∈ wsX40, w ∈ wsGA := fun _ h => List.mem_append_left _ (List.mem_append_left _ (List.mem_append_left _ (List.mem_append_left _ (List.mem_append_right _ h))))
theorem jnGA_X1 : ∀ w ∈ wsX10, w ∈ wsGA := fun _ h => List.mem_append_left _ (List.mem_append_left _ (List.mem_append_left _ (List.mem_append_right _ h)))
theorem jnGA_X5 : ∀ w ∈ wsX50, w ∈ wsGA := fun _ h => List.mem_append_left _ (List.mem_append_left _ (List.mem_append_right _ h))
theorem jnGA_X7 : ∀ w ∈ wsX70, w ∈ wsGA := fun _ h => List.mem_append_left _ (List.mem_append_right _ h)
theorem jnGA_X2 : ∀ w ∈ wsX20, w ∈ wsGA := fun _ h => List.mem_append_right _ h
theorem goodGA : wsGA.all goodWord = true := by decide +kernel
set_option maxRecDepth 100000 in
def wsGB : List Cond := [Cond.fieldLink RX12 126 "SightedMonthsModel" "lines" "I", Cond.fieldLink RX12 138 "SightedMonthsModel" "places" "I", Cond.code yX12_in cX12_in 6 (some .boolean), Cond.methodLink RX12 102 yX12_in, Cond.static yX12_in, Cond.initialized RX12, Cond.fieldLink RX12 141 "SightedMonthsModel" "reports" "I", Cond.fieldLink RX12 144 "SightedMonthsModel" "deeds" "I", Cond.code yX12_isPlace cX12_isPlace 2 (some .boolean), Cond.methodLink RX12 294 yX12_isPlace, Cond.instanceMethod yX12_isPlace, Cond.selects RX12 yX12_isPlace yX12_isPlace, Cond.code yX12_isReport cX12_isReport 2 (some .boolean), Cond.methodLink RX12 303 yX12_isReport, Cond.instanceMethod yX12_isReport, Cond.selects RX12 yX12_isReport yX12_isReport, Cond.code yX12_isDeed cX12_isDeed 2 (some .boolean), Cond.methodLink RX12 306 yX12_isDeed, Cond.instanceMethod yX12_isDeed, Cond.selects RX12 yX12_isDeed yX12_isDeed, Cond.fieldLink RX12 129 "SightedMonthsModel" "hasMoon" "Z", Cond.code yX12_isTime cX12_isTime 2 (some .boolean), Cond.methodLink RX12 359 yX12_isTime, Cond.instanceMethod yX12_isTime, Cond.selects RX12 yX12_isTime yX12_isTime, Cond.fieldLink RX12 53 "SightedMonthsModel" "faultPlace" "I", Cond.fieldLink RX12 177 "SightedMonthsModel" "faultKind" "I", Cond.fieldLink RX12 117 "SightedMonthsModel" "months" "I", Cond.fieldLink RX12 120 "SightedMonthsModel" "mostFull" "I", Cond.fieldLink RX12 123 "SightedMonthsModel" "mostLean" "I", Cond.fieldLink RX12 99 "SightedMonthsModel" "taped" "I", Cond.fieldLink RX12 289 "SightedMonthsModel" "outs" "I", Cond.fieldLink RX12 132 "SightedMonthsModel" "moonFirst" "I", Cond.fieldLink RX12 135 "SightedMonthsModel" "moonStep" "I"] ++ wsX120
theorem mGB_0 : Cond.fieldLink RX12 126 "SightedMonthsModel" "lines" "I" ∈ wsGB := List.mem_of_getElem? (i := 0) (by decide +kernel)
theorem mGB_1 : Cond.fieldLink RX12 138 "SightedMonthsModel" "places" "I" ∈ wsGB := List.mem_of_getElem? (i := 1) (by decide +kernel)
theorem mGB_2 : Cond.code yX12_in cX12_in 6 (some .boolean) ∈ wsGB := List.mem_of_getElem? (i := 2) (by decide +kernel)
theorem mGB_3 : Cond.methodLink RX12 102 yX12_in ∈ wsGB := List.mem_of_getElem? (i := 3) (by decide +kernel)
theorem mGB_4 : Cond.static yX12_in ∈ wsGB := List.mem_of_getElem? (i := 4) (by decide +kernel)
theorem mGB_5 : Cond.initialized RX12 ∈ wsGB := List.mem_of_getElem? (i := 5) (by decide +kernel)
theorem mGB_6 : Cond.fieldLink RX12 141 "SightedMonthsModel" "reports" "I" ∈ wsGB := List.mem_of_getElem? (i := 6) (by decide +kernel)
theorem mGB_7 : Cond.fieldLink RX12 144 "SightedMonthsModel" "deeds" "I" ∈ wsGB := List.mem_of_getElem? (i := 7) (by decide +kernel)
theorem mGB_8 : Cond.code yX12_isPlace cX12_isPlace 2 (some .boolean) ∈ wsGB := List.mem_of_getElem? (i := 8) (by decide +kernel)
theorem mGB_9 : Cond.methodLink RX12 294 yX12_isPlace ∈ wsGB := List.mem_of_getElem? (i := 9) (by decide +kernel)
theorem mGB_10 : Cond.instanceMethod yX12_isPlace ∈ wsGB := List.mem_of_getElem? (i := 10) (by decide +kernel)
theorem mGB_11 : Cond.selects RX12 yX12_isPlace yX12_isPlace ∈ wsGB := List.mem_of_getElem? (i := 11) (by decide +kernel)
theorem mGB_12 : Cond.code yX12_isReport cX12_isReport 2 (some .boolean) ∈ wsGB := List.mem_of_getElem? (i := 12) (by decide +kernel)
theorem mGB_13 : Cond.methodLink RX12 303 yX12_isReport ∈ wsGB := List.mem_of_getElem? (i := 13) (by decide +kernel)
theorem mGB_14 : Cond.instanceMethod yX12_isReport ∈ wsGB := List.mem_of_getElem? (i := 14) (by decide +kernel)
theorem mGB_15 : Cond.selects RX12 yX12_isReport yX12_isReport ∈ wsGB := List.mem_of_getElem? (i := 15) (by decide +kernel)
theorem mGB_16 : Cond.code yX12_isDeed cX12_isDeed 2 (some .boolean) ∈ wsGB := List.mem_of_getElem? (i := 16) (by decide +kernel)
theorem mGB_17 : Cond.methodLink RX12 306 yX12_isDeed ∈ wsGB := List.mem_of_getElem? (i := 17) (by decide +kernel)
theorem mGB_18 : Cond.instanceMethod yX12_isDeed ∈ wsGB := List.mem_of_getElem? (i := 18) (by decide +kernel)
theorem mGB_19 : Cond.selects RX12 yX12_isDeed yX12_isDeed ∈ wsGB := List.mem_of_getElem? (i := 19) (by decide +kernel)
theorem mGB_20 : Cond.fieldLink RX12 129 "SightedMonthsModel" "hasMoon" "Z" ∈ wsGB := List.mem_of_getElem? (i := 20) (by decide +kernel)
theorem mGB_21 : Cond.code yX12_isTime cX12_isTime 2 (some .boolean) ∈ wsGB := List.mem_of_getElem? (i := 21) (by decide +kernel)
theorem mGB_22 : Cond.methodLink RX12 359 yX12_isTime ∈ wsGB := List.mem_of_getElem? (i := 22) (by decide +kernel)
theorem mGB_23 : Cond.instanceMethod yX12_isTime ∈ wsGB := List.mem_of_getElem? (i := 23) (by decide +kernel)
theorem mGB_24 : Cond.selects RX12 yX12_isTime yX12_isTime ∈ wsGB := List.mem_of_getElem? (i := 24) (by decide +kernel)
theorem mGB_25 : Cond.fieldLink RX12 53 "SightedMonthsModel" "faultPlace" "I" ∈ wsGB := List.mem_of_getElem? (i := 25) (by decide +kernel)
theorem mGB_26 : Cond.fieldLink RX12 177 "SightedMonthsModel" "faultKind" "I" ∈ wsGB := List.mem_of_getElem? (i := 26) (by decide +kernel)
theorem mGB_27 : Cond.fieldLink RX12 117 "SightedMonthsModel" "months" "I" ∈ wsGB := List.mem_of_getElem? (i := 27) (by decide +kernel)
theorem mGB_28 : Cond.fieldLink RX12 120 "SightedMonthsModel" "mostFull" "I" ∈ wsGB := List.mem_of_getElem? (i := 28) (by decide +kernel)
theorem mGB_29 : Cond.fieldLink RX12 123 "SightedMonthsModel" "mostLean" "I" ∈ wsGB := List.mem_of_getElem? (i := 29) (by decide +kernel)
theorem mGB_30 : Cond.fieldLink RX12 99 "SightedMonthsModel" "taped" "I" ∈ wsGB := List.mem_of_getElem? (i := 30) (by decide +kernel)
theorem mGB_31 : Cond.fieldLink RX12 289 "SightedMonthsModel" "outs" "I" ∈ wsGB := List.mem_of_getElem? (i := 31) (by decide +kernel)
theorem mGB_32 : Cond.fieldLink RX12 132 "SightedMonthsModel" "moonFirst" "I" ∈ wsGB := List.mem_of_getElem? (i := 32) (by decide +kernel)
theorem mGB_33 : Cond.fieldLink RX12 135 "SightedMonthsModel" "moonStep" "I" ∈ wsGB := List.mem_of_getElem? (i := 33) (by decide +kernel)
theorem jnGB_X12 : ∀ w ∈ wsX120, w ∈ wsGB := fun _ h => List.mem_append_right _ h
theorem goodGB : wsGB.all goodWord = true := by decide +kernel
end
section
def nzA (U : State) : Prop := va_Nw (.methodLinkNest RX11 11 yX6_init RX11) U ∧ va_Nw (.methodLinkNest RX6 11 yX10_init RX11) U ∧ va_Nw (.methodLinkNest RX0 29 yX5_init RX11) U ∧ va_Nw (.methodLinkNest RX0 30 yX7_init RX11) U ∧ va_Nw (.methodLinkNest RX0 31 yX2_init RX11) U ∧ va_Nw (.methodLinkNest RX11 28 yX3_init RX11) U ∧ va_Nw (.methodLinkNest RX11 35 yX1_init RX11) U ∧ va_Nw (.methodLinkNest RX1 11 yX3_init RX11) U ∧ va_Nw (.methodLinkNest RX11 45 yX9_init RX11) U ∧ va_Nw (.methodLinkNest RX11 52 yX8_init RX11) U ∧ va_Nw (.methodLinkNest RX11 59 yX4_init RX11) U ∧ va_AO RX5 U ∧ va_AO RX7 U ∧ va_AO RX2 U
theorem nzA_X11_11 {U : State} (h : nzA U) : va_Nw (.methodLinkNest RX11 11 yX6_init RX11) U := h.1
theorem nzA_X6_11 {U : State} (h : nzA U) : va_Nw (.methodLinkNest RX6 11 yX10_init RX11) U := h.2.1
theorem nzA_X0_29 {U : State} (h : nzA U) : va_Nw (.methodLinkNest RX0 29 yX5_init RX11) U := h.2.2.1
theorem nzA_X0_30 {U : State} (h : nzA U) : va_Nw (.methodLinkNest RX0 30 yX7_init RX11) U := h.2.2.2.1
theorem nzA_X0_31 {U : State} (h : nzA U) : va_Nw (.methodLinkNest RX0 31 yX2_init RX11) U := h.2.2.2.2.1
theorem nzA_X11_28 {U : State} (h : nzA U) : va_Nw (.methodLinkNest RX11 28 yX3_init RX11) U := h.2.2.2.2.2.1
theorem nzA_X11_35 {U : State} (h : nzA U) : va_Nw (.methodLinkNest RX11 35 yX1_init RX11) U := h.2.2.2.2.2.2.1
theorem nzA_X1_11 {U : State} (h : nzA U) : va_Nw (.methodLinkNest RX1 11 yX3_init RX11) U := h.2.2.2.2.2.2.2.1
theorem nzA_X11_45 {U : State} (h : nzA U) : va_Nw (.methodLinkNest RX11 45 yX9_init RX11) U := h.2.2.2.2.2.2.2.2.1
theorem nzA_X11_52 {U : State} (h : nzA U) : va_Nw (.methodLinkNest RX11 52 yX8_init RX11) U := h.2.2.2.2.2.2.2.2.2.1
theorem nzA_X11_59 {U : State} (h : nzA U) : va_Nw (.methodLinkNest RX11 59 yX4_init RX11) U := h.2.2.2.2.2.2.2.2.2.2.1
theorem nzA_ao_X5 {U : State} (h : nzA U) : va_AO RX5 U := h.2.2.2.2.2.2.2.2.2.2.2.1
theorem nzA_ao_X7 {U : State} (h : nzA U) : va_AO RX7 U := h.2.2.2.2.2.2.2.2.2.2.2.2.1
theorem nzA_ao_X2 {U : State} (h : nzA U) : va_AO RX2 U := h.2.2.2.2.2.2.2.2.2.2.2.2.2
theorem nzA_same {u U : State} (h : u.vm = U.vm) (hz : nzA u) : nzA U := ⟨va_Nw.same rfl h (nzA_X11_11 hz), va_Nw.same rfl h (nzA_X6_11 hz), va_Nw.same rfl h (nzA_X0_29 hz), va_Nw.same rfl h (nzA_X0_30 hz), va_Nw.same rfl h (nzA_X0_31 hz), va_Nw.same rfl h (nzA_X11_28 hz), va_Nw.same rfl h (nzA_X11_35 hz), va_Nw.same rfl h (nzA_X1_11 hz), va_Nw.same rfl h (nzA_X11_45 hz), va_Nw.same rfl h (nzA_X11_52 hz), va_Nw.same rfl h (nzA_X11_59 hz), va_AO.moved (h ▸ Vm.Alike.refl u.vm) (nzA_ao_X5 hz), va_AO.moved (h ▸ Vm.Alike.refl u.vm) (nzA_ao_X7 hz), va_AO.moved (h ▸ Vm.Alike.refl u.vm) (nzA_ao_X2 hz)⟩
theorem nzA_warm {s U : State} (hW : s.WarmedH U.vm) (hz : nzA s) : nzA U := ⟨va_Nw.warmM hW (nzA_X11_11 hz), va_Nw.warmM hW (nzA_X6_11 hz), va_Nw.warmM hW (nzA_X0_29 hz), va_Nw.warmM hW (nzA_X0_30 hz), va_Nw.warmM hW (nzA_X0_31 hz), va_Nw.warmM hW (nzA_X11_28 hz), va_Nw.warmM hW (nzA_X11_35 hz), va_Nw.warmM hW (nzA_X1_11 hz), va_Nw.warmM hW (nzA_X11_45 hz), va_Nw.warmM hW (nzA_X11_52 hz), va_Nw.warmM hW (nzA_X11_59 hz), va_AO.moved hW.alike (nzA_ao_X5 hz), va_AO.moved hW.alike (nzA_ao_X7 hz), va_AO.moved hW.alike (nzA_ao_X2 hz)⟩
theorem dX5_init_0 : decode cX5_init 0 = .ok (.aload_n 0, 1) := by decide +kernel
theorem dX5_init_1 : decode cX5_init 1 = .ok (.invokespecial 1, 3) := by decide +kernel
theorem dX5_init_4 : decode cX5_init 4 = .ok (.return_, 1) := by decide +kernel
set_option maxHeartbeats 4000000 in
set_option maxRecDepth 100000 in
theorem fX5_init (l : Launch) (dC : Nat → ClassId) (dI : Nat → Nat → Nat) (h0 : Nat) : Met l yX5_init (.code yX5_init cX5_init 1 none :: wsGA) ({ frames := 1, cells := 0, slots := 0, locals := 12 }) (va_Pc [.ref h0] (fun U => va_P (dC, dI) vwCl [] U.heap ∧ va_K (dC, dI) vwCl [] U)) (va_Qv (fun (u : Unit) => True) (fun _ _ => True) (fun _ => False)) 0 0 (fun _ => False) := by
  refine Met.ofW (cc := cX5_init) (maxL := 1) (ret := none) (by decide) rfl ?_
  intro p e s m args below meth c s₁ B hml hv
  obtain ⟨rfl, hP, hK⟩ := hv
  have hx := B.exec
  have hb := B.bytes
  have hr := B.returns
  have hts := atoms_spec (ws := (.code yX5_init cX5_init 1 none :: wsGA)) B.pre
  have hown : s.vm.findClass RX5 = some m.cls := findClass_of_methodNamed B.named
  have hlocks := B.notSynchronized
  have hin : meth.name = "<init>" := (name_of_methodNamed B.named B.method).1
  have hS : va_S (fun _ => False) s.heap s.heap [] := va_S.rf
  have hl := lv_entry ([.ref h0]) (n := 1) (Nat.le_of_ble_eq_true rfl)
  rw [lg_entry_eq]
  generalize (lg_sl ([.ref h0]) ++ List.replicate (1 - (lg_sl ([.ref h0])).length) Slot.unset).toArray = ls at hl ⊢
  have hl : lv_has ls 1 [(0, .ref h0)] := hl
  refine lv_aload_n hx hb dX5_init_0 rfl (lv_at hl 0 rfl) ?_
  refine W.objInit hx hb hown (hts _ (List.mem_cons_of_mem _ mGA_42)) (hts _ (List.mem_cons_of_mem _ mGA_43)) (hts _ (List.mem_cons_of_mem _ mGA_44)) rfl (by rw [hml]; exact hl.1) rfl dX5_init_1 (Nat.le_of_ble_eq_true rfl) (Nat.le_of_ble_eq_true rfl) ?_
  refine W.eq (g2 := F0 m 4 ls []) rfl ?_
  exact W.vret hx hb hr (fun t ht hW => ⟨⟨(), rfl, trivial, trivial⟩, hS.F ht⟩) hS.2.2 dX5_init_4
theorem dX7_init_0 : decode cX7_init 0 = .ok (.aload_n 0, 1) := by decide +kernel
theorem dX7_init_1 : decode cX7_init 1 = .ok (.invokespecial 1, 3) := by decide +kernel
theorem dX7_init_4 : decode cX7_init 4 = .ok (.return_, 1) := by decide +kernel
set_option maxHeartbeats 4000000 in
set_option maxRecDepth 100000 in
theorem fX7_init (l : Launch) (dC : Nat → ClassId) (dI : Nat → Nat → Nat) (h0 : Nat) : Met l yX7_init (.code yX7_init cX7_init 1 none :: wsGA) ({ frames := 1, cells := 0, slots := 0, locals := 12 }) (va_Pc [.ref h0] (fun U => va_P (dC, dI) vwCl [] U.heap ∧ va_K (dC, dI) vwCl [] U)) (va_Qv (fun (u : Unit) => True) (fun _ _ => True) (fun _ => False)) 0 0 (fun _ => False) := by
  refine Met.ofW (cc := cX7_init) (maxL := 1) (ret := none) (by decide) rfl ?_
  intro p e s m args below meth c s₁ B hml hv
  obtain ⟨rfl, hP, hK⟩ := hv
  have hx := B.exec
  have hb := B.bytes
  have hr := B.returns
  have hts := atoms_spec (ws := (.code yX7_init cX7_init 1 none :: wsGA)) B.pre
  have hown : s.vm.findClass RX7 = some m.cls := findClass_of_methodNamed B.named
  have hlocks := B.notSynchronized
  have hin : meth.name = "<init>" := (name_of_methodNamed B.named B.method).1
  have hS : va_S (fun _ => False) s.heap s.heap [] := va_S.rf
  have hl := lv_entry ([.ref h0]) (n := 1) (Nat.le_of_ble_eq_true rfl)
  rw [lg_entry_eq]
  generalize (lg_sl ([.ref h0]) ++ List.replicate (1 - (lg_sl ([.ref h0])).length) Slot.unset).toArray = ls at hl ⊢
  have hl : lv_has ls 1 [(0, .ref h0)] := hl
  refine lv_aload_n hx hb dX7_init_0 rfl (lv_at hl 0 rfl) ?_
  refine W.objInit hx hb hown (hts _ (List.mem_cons_of_mem _ mGA_45)) (hts _ (List.mem_cons_of_mem _ mGA_43)) (hts _ (List.mem_cons_of_mem _ mGA_44)) rfl (by rw [hml]; exact hl.1) rfl dX7_init_1 (Nat.le_of_ble_eq_true rfl) (Nat.le_of_ble_eq_true rfl) ?_
  refine W.eq (g2 := F0 m 4 ls []) rfl ?_
  exact W.vret hx hb hr (fun t ht hW => ⟨⟨(), rfl, trivial, trivial⟩, hS.F ht⟩) hS.2.2 dX7_init_4
theorem dX2_init_0 : decode cX2_init 0 = .ok (.aload_n 0, 1) := by decide +kernel
theorem dX2_init_1 : decode cX2_init 1 = .ok (.invokespecial 1, 3) := by decide +kernel
theorem dX2_init_4 : decode cX2_init 4 = .ok (.return_, 1) := by decide +kernel
set_option maxHeartbeats 4000000 in
set_option maxRecDepth 100000 in
theorem fX2_init (l : Launch) (dC : Nat → ClassId) (dI : Nat → Nat → Nat) (h0 : Nat) : Met l yX2_init (.code yX2_init cX2_init 1 none :: wsGA) ({ frames := 1, cells := 0, slots := 0, locals := 12 }) (va_Pc [.ref h0] (fun U => va_P (dC, dI) vwCl [] U.heap ∧ va_K (dC, dI) vwCl [] U)) (va_Qv (fun (u : Unit) => True) (fun _ _ => True) (fun _ => False)) 0 0 (fun _ => False) := by
  refine Met.ofW (cc := cX2_init) (maxL := 1) (ret := none) (by decide) rfl ?_
  intro p e s m args below meth c s₁ B hml hv
  obtain ⟨rfl, hP, hK⟩ := hv
  have hx := B.exec
  have hb := B.bytes
  have hr := B.returns
  have hts := atoms_spec (ws := (.code yX2_init cX2_init 1 none :: wsGA)) B.pre
  have hown : s.vm.findClass RX2 = some m.cls := findClass_of_methodNamed B.named
  have hlocks := B.notSynchronized
  have hin : meth.name = "<init>" := (name_of_methodNamed B.named B.method).1
  have hS : va_S (fun _ => False) s.heap s.heap [] := va_S.rf
  have hl := lv_entry ([.ref h0]) (n := 1) (Nat.le_of_ble_eq_true rfl)
  rw [lg_entry_eq]
  generalize (lg_sl ([.ref h0]) ++ List.replicate (1 - (lg_sl ([.ref h0])).length) Slot.unset).toArray = ls at hl ⊢
  have hl : lv_has ls 1 [(0, .ref h0)] := hl
  refine lv_aload_n hx hb dX2_init_0 rfl (lv_at hl 0 rfl) ?_
  refine W.objInit hx hb hown (hts _ (List.mem_cons_of_mem _ mGA_46)) (hts _ (List.mem_cons_of_mem _ mGA_43)) (hts _ (List.mem_cons_of_mem _ mGA_44)) rfl (by rw [hml]; exact hl.1) rfl dX2_init_1 (Nat.le_of_ble_eq_true rfl) (Nat.le_of_ble_eq_true rfl) ?_
  refine W.eq (g2 := F0 m 4 ls []) rfl ?_
  exact W.vret hx hb hr (fun t ht hW => ⟨⟨(), rfl, trivial, trivial⟩, hS.F ht⟩) hS.2.2 dX2_init_4
theorem dX3_init_0 : decode cX3_init 0 = .ok (.aload_n 0, 1) := by decide +kernel
theorem dX3_init_1 : decode cX3_init 1 = .ok (.invokespecial 3, 3) := by decide +kernel
theorem dX3_init_4 : decode cX3_init 4 = .ok (.aload_n 0, 1) := by decide +kernel
theorem dX3_init_5 : decode cX3_init 5 = .ok (.bipush 25, 2) := by decide +kernel
theorem dX3_init_7 : decode cX3_init 7 = .ok (.newarray .int, 2) := by decide +kernel
theorem dX3_init_9 : decode cX3_init 9 = .ok (.putfield 9, 3) := by decide +kernel
theorem dX3_init_12 : decode cX3_init 12 = .ok (.aload_n 0, 1) := by decide +kernel
theorem dX3_init_13 : decode cX3_init 13 = .ok (.sipush 275, 3) := by decide +kernel
theorem dX3_init_16 : decode cX3_init 16 = .ok (.newarray .int, 2) := by decide +kernel
theorem dX3_init_18 : decode cX3_init 18 = .ok (.putfield 15, 3) := by decide +kernel
theorem dX3_init_21 : decode cX3_init 21 = .ok (.return_, 1) := by decide +kernel
set_option maxHeartbeats 4000000 in
set_option maxRecDepth 100000 in
theorem fX3_init (l : Launch) (dC : Nat → ClassId) (dI : Nat → Nat → Nat) (sz : Nat) (h0 : Nat) : Met l yX3_init (.code yX3_init cX3_init 1 none :: wsGA) ({ frames := 1, cells := 2, slots := 300, locals := 12 }) (va_Pc [.ref h0] (fun U => U.heap.size = sz ∧ va_P (dC, dI) vwCl [(h0, .inr (3, [.int 0, .int 0, .int 0, .null, .null]))] U.heap ∧ va_K (dC, dI) vwCl [] U ∧ va_D (fun _ => True) [(h0, .inr (3, [.int 0, .int 0, .int 0, .null, .null]))])) (va_Qv (fun (u : Unit) => True) (fun _ _ => True) (va_A [(h0, .inr (3, [.int 0, .int 0, .int 0, .null, .null]))] sz)) 2 300 (va_A [(h0, .inr (3, [.int 0, .int 0, .int 0, .null, .null]))] sz) := by
  refine Met.ofW (cc := cX3_init) (maxL := 1) (ret := none) (by decide) rfl ?_
  intro p e s m args below meth c s₁ B hml hv
  obtain ⟨rfl, hsz, hP, hK, hD0⟩ := hv
  have hx := B.exec
  have hb := B.bytes
  have hr := B.returns
  have hts := atoms_spec (ws := (.code yX3_init cX3_init 1 none :: wsGA)) B.pre
  have hown : s.vm.findClass RX3 = some m.cls := findClass_of_methodNamed B.named
  have hlocks := B.notSynchronized
  have hin : meth.name = "<init>" := (name_of_methodNamed B.named B.method).1
  subst hsz
  have hD := hD0.self (sz := s.heap.size)
  generalize hAe : va_A [(h0, .inr (3, [.int 0, .int 0, .int 0, .null, .null]))] s.heap.size = A at hD ⊢
  have hA : ∀ q : Nat, s.heap.size ≤ q → A q := fun q h => by rw [← hAe]; exact Or.inr h
  have hS : va_S A s.heap s.heap [] := va_S.rf
  have hl := lv_entry ([.ref h0]) (n := 1) (Nat.le_of_ble_eq_true rfl)
  rw [lg_entry_eq]
  generalize (lg_sl ([.ref h0]) ++ List.replicate (1 - (lg_sl ([.ref h0])).length) Slot.unset).toArray = ls at hl ⊢
  have hl : lv_has ls 1 [(0, .ref h0)] := hl
  refine lv_aload_n hx hb dX3_init_0 rfl (lv_at hl 0 rfl) ?_
  refine W.objInit hx hb hown (hts _ (List.mem_cons_of_mem _ mGA_47)) (hts _ (List.mem_cons_of_mem _ mGA_43)) (hts _ (List.mem_cons_of_mem _ mGA_44)) rfl (by rw [hml]; exact hl.1) rfl dX3_init_1 (Nat.le_of_ble_eq_true rfl) (Nat.le_of_ble_eq_true rfl) ?_
  refine W.eq (g2 := F0 m 4 ls []) rfl ?_
  refine lv_aload_n hx hb dX3_init_4 rfl (lv_at hl 0 rfl) ?_
  refine lv_bipush (v := 25) hx hb dX3_init_5 (by decide) ?_
  refine va_newa (atype := .int) (ty := .int) (a0 := (25, .inl (fun _ => 0))) hx hb (hts _ (List.mem_cons_of_mem _ mGA_48)) rfl hK hP hD hS hA (fun _ => rfl) (by decide) (by decide) (Nat.le_of_ble_eq_true rfl) (Nat.le_of_ble_eq_true rfl) (Nat.le_of_ble_eq_true rfl) dX3_init_7 (fun q_1 k_2 H hK hP hD hS => ?_)
  have hP : va_P (dC, dI) vwCl [(h0, .inr (3, [.int 0, .int 0, .int 0, .null, .null])), (q_1, .inl (k_2, 25, .inl (fun _ => 0)))] H := hP
  have hD : va_D A [(h0, .inr (3, [.int 0, .int 0, .int 0, .null, .null])), (q_1, .inl (k_2, 25, .inl (fun _ => 0)))] := hD
  have hK : va_K (dC, dI) vwCl [(k_2, .int)] s := hK
  refine W.widen (k := 1) (n := 25) (Nat.le_of_ble_eq_true rfl) (Nat.le_of_ble_eq_true rfl) ?_
  refine va_putF (D := (dC, dI)) (ci := 3) (v := .ref q_1) (ty := .array .int) (C := RX3) (T := TX3) (N := 5) hx hb hts (fun w h => List.mem_cons_of_mem _ (jnGA_X3 w h)) tyX3 tyX3_ok nmX3 hown hK hP hD hS 0 rfl rfl 3 (by decide) (hts _ (List.mem_cons_of_mem _ mGA_49)) (fun _ h9 => h9) rfl hin rfl (by decide +kernel) rfl rfl (Nat.le_of_ble_eq_true rfl) dX3_init_9 (fun H locs hP hD hS => ?_)
  have hP : va_P (dC, dI) vwCl [(h0, .inr (3, [.int 0, .int 0, .int 0, .ref q_1, .null])), (q_1, .inl (k_2, 25, .inl (fun _ => 0)))] H := hP
  have hD : va_D A [(h0, .inr (3, [.int 0, .int 0, .int 0, .ref q_1, .null])), (q_1, .inl (k_2, 25, .inl (fun _ => 0)))] := hD
  refine lv_aload_n hx hb dX3_init_12 rfl (lv_at hl 0 rfl) ?_
  refine lv_sipush (v := 275) hx hb dX3_init_13 (by decide) ?_
  refine va_newa (atype := .int) (ty := .int) (a0 := (275, .inl (fun _ => 0))) hx hb (hts _ (List.mem_cons_of_mem _ mGA_48)) rfl hK hP hD hS hA (fun _ => rfl) (by decide) (by decide) (Nat.le_of_ble_eq_true rfl) (Nat.le_of_ble_eq_true rfl) (Nat.le_of_ble_eq_true rfl) dX3_init_16 (fun q_3 k_4 H hK hP hD hS => ?_)
  have hP : va_P (dC, dI) vwCl [(h0, .inr (3, [.int 0, .int 0, .int 0, .ref q_1, .null])), (q_1, .inl (k_2, 25, .inl (fun _ => 0))), (q_3, .inl (k_4, 275, .inl (fun _ => 0)))] H := hP
  have hD : va_D A [(h0, .inr (3, [.int 0, .int 0, .int 0, .ref q_1, .null])), (q_1, .inl (k_2, 25, .inl (fun _ => 0))), (q_3, .inl (k_4, 275, .inl (fun _ => 0)))] := hD
  have hK : va_K (dC, dI) vwCl [(k_2, .int), (k_4, .int)] s := hK
  refine W.widen (k := 2) (n := 300) (Nat.le_of_ble_eq_true rfl) (Nat.le_of_ble_eq_true rfl) ?_
  refine va_putF (D := (dC, dI)) (ci := 3) (v := .ref q_3) (ty := .array .int) (C := RX3) (T := TX3) (N := 5) hx hb hts (fun w h => List.mem_cons_of_mem _ (jnGA_X3 w h)) tyX3 tyX3_ok nmX3 hown hK hP hD hS 0 rfl rfl 4 (by decide) (hts _ (List.mem_cons_of_mem _ mGA_50)) (fun _ h9 => h9) rfl hin rfl (by decide +kernel) rfl rfl (Nat.le_of_ble_eq_true rfl) dX3_init_18 (fun H locs hP hD hS => ?_)
  have hP : va_P (dC, dI) vwCl [(h0, .inr (3, [.int 0, .int 0, .int 0, .ref q_1, .ref q_3])), (q_1, .inl (k_2, 25, .inl (fun _ => 0))), (q_3, .inl (k_4, 275, .inl (fun _ => 0)))] H := hP
  have hD : va_D A [(h0, .inr (3, [.int 0, .int 0, .int 0, .ref q_1, .ref q_3])), (q_1, .inl (k_2, 25, .inl (fun _ => 0))), (q_3, .inl (k_4, 275, .inl (fun _ => 0)))] := hD
  exact W.vret hx hb hr (fun t ht hW => ⟨⟨(), rfl, trivial, trivial⟩, hS.F ht⟩) hS.2.2 dX3_init_21
theorem dX9_init_0 : decode cX9_init 0 = .ok (.aload_n 0, 1) := by decide +kernel
theorem dX9_init_1 : decode cX9_init 1 = .ok (.invokespecial 3, 3) := by decide +kernel
theorem dX9_init_4 : decode cX9_init 4 = .ok (.aload_n 0, 1) := by decide +kernel
theorem dX9_init_5 : decode cX9_init 5 = .ok (.sipush 3575, 3) := by decide +kernel
theorem dX9_init_8 : decode cX9_init 8 = .ok (.newarray .int, 2) := by decide +kernel
theorem dX9_init_10 : decode cX9_init 10 = .ok (.putfield 9, 3) := by decide +kernel
theorem dX9_init_13 : decode cX9_init 13 = .ok (.aload_n 0, 1) := by decide +kernel
theorem dX9_init_14 : decode cX9_init 14 = .ok (.sipush 3575, 3) := by decide +kernel
theorem dX9_init_17 : decode cX9_init 17 = .ok (.newarray .int, 2) := by decide +kernel
theorem dX9_init_19 : decode cX9_init 19 = .ok (.putfield 15, 3) := by decide +kernel
theorem dX9_init_22 : decode cX9_init 22 = .ok (.aload_n 0, 1) := by decide +kernel
theorem dX9_init_23 : decode cX9_init 23 = .ok (.sipush 325, 3) := by decide +kernel
theorem dX9_init_26 : decode cX9_init 26 = .ok (.newarray .int, 2) := by decide +kernel
theorem dX9_init_28 : decode cX9_init 28 = .ok (.putfield 18, 3) := by decide +kernel
theorem dX9_init_31 : decode cX9_init 31 = .ok (.return_, 1) := by decide +kernel
set_option maxHeartbeats 4000000 in
set_option maxRecDepth 100000 in
theorem fX9_init (l : Launch) (dC : Nat → ClassId) (dI : Nat → Nat → Nat) (sz : Nat) (h0 : Nat) : Met l yX9_init (.code yX9_init cX9_init 1 none :: wsGA) ({ frames := 1, cells := 3, slots := 7475, locals := 12 }) (va_Pc [.ref h0] (fun U => U.heap.size = sz ∧ va_P (dC, dI) vwCl [(h0, .inr (9, [.null, .null, .null, .int 0, .int 0, .int 0]))] U.heap ∧ va_K (dC, dI) vwCl [] U ∧ va_D (fun _ => True) [(h0, .inr (9, [.null, .null, .null, .int 0, .int 0, .int 0]))])) (va_Qv (fun (u : Unit) => True) (fun _ _ => True) (va_A [(h0, .inr (9, [.null, .null, .null, .int 0, .int 0, .int 0]))] sz)) 3 7475 (va_A [(h0, .inr (9, [.null, .null, .null, .int 0, .int 0, .int 0]))] sz) := by
  refine Met.ofW (cc := cX9_init) (maxL := 1) (ret := none) (by decide) rfl ?_
  intro p e s m args below meth c s₁ B hml hv
  obtain ⟨rfl, hsz, hP, hK, hD0⟩ := hv
  have hx := B.exec
  have hb := B.bytes
  have hr := B.returns
  have hts := atoms_spec (ws := (.code yX9_init cX9_init 1 none :: wsGA)) B.pre
  have hown : s.vm.findClass RX9 = some m.cls := findClass_of_methodNamed B.named
  have hlocks := B.notSynchronized
  have hin : meth.name = "<init>" := (name_of_methodNamed B.named B.method).1
  subst hsz
  have hD := hD0.self (sz := s.heap.size)
  generalize hAe : va_A [(h0, .inr (9, [.null, .null, .null, .int 0, .int 0, .int 0]))] s.heap.size = A at hD ⊢
  have hA : ∀ q : Nat, s.heap.size ≤ q → A q := fun q h => by rw [← hAe]; exact Or.inr h
  have hS : va_S A s.heap s.heap [] := va_S.rf
  have hl := lv_entry ([.ref h0]) (n := 1) (Nat.le_of_ble_eq_true rfl)
  rw [lg_entry_eq]
  generalize (lg_sl ([.ref h0]) ++ List.replicate (1 - (lg_sl ([.ref h0])).length) Slot.unset).toArray = ls at hl ⊢
  have hl : lv_has ls 1 [(0, .ref h0)] := hl
  refine lv_aload_n hx hb dX9_init_0 rfl (lv_at hl 0 rfl) ?_
  refine W.objInit hx hb hown (hts _ (List.mem_cons_of_mem _ mGA_51)) (hts _ (List.mem_cons_of_mem _ mGA_43)) (hts _ (List.mem_cons_of_mem _ mGA_44)) rfl (by rw [hml]; exact hl.1) rfl dX9_init_1 (Nat.le_of_ble_eq_true rfl) (Nat.le_of_ble_eq_true rfl) ?_
  refine W.eq (g2 := F0 m 4 ls []) rfl ?_
  refine lv_aload_n hx hb dX9_init_4 rfl (lv_at hl 0 rfl) ?_
  refine lv_sipush (v := 3575) hx hb dX9_init_5 (by decide) ?_
  refine va_newa (atype := .int) (ty := .int) (a0 := (3575, .inl (fun _ => 0))) hx hb (hts _ (List.mem_cons_of_mem _ mGA_48)) rfl hK hP hD hS hA (fun _ => rfl) (by decide) (by decide) (Nat.le_of_ble_eq_true rfl) (Nat.le_of_ble_eq_true rfl) (Nat.le_of_ble_eq_true rfl) dX9_init_8 (fun q_1 k_2 H hK hP hD hS => ?_)
  have hP : va_P (dC, dI) vwCl [(h0, .inr (9, [.null, .null, .null, .int 0, .int 0, .int 0])), (q_1, .inl (k_2, 3575, .inl (fun _ => 0)))] H := hP
  have hD : va_D A [(h0, .inr (9, [.null, .null, .null, .int 0, .int 0, .int 0])), (q_1, .inl (k_2, 3575, .inl (fun _ => 0)))] := hD
  have hK : va_K (dC, dI) vwCl [(k_2, .int)] s := hK
  refine W.widen (k := 1) (n := 3575) (Nat.le_of_ble_eq_true rfl) (Nat.le_of_ble_eq_true rfl) ?_
  refine va_putF (D := (dC, dI)) (ci := 9) (v := .ref q_1) (ty := .array .int) (C := RX9) (T := TX9) (N := 6) hx hb hts (fun w h => List.mem_cons_of_mem _ (jnGA_X9 w h)) tyX9 tyX9_ok nmX9 hown hK hP hD hS 0 rfl rfl 0 (by decide) (hts _ (List.mem_cons_of_mem _ mGA_52)) (fun _ h9 => h9) rfl hin rfl (by decide +kernel) rfl rfl (Nat.le_of_ble_eq_true rfl) dX9_init_10 (fun H locs hP hD hS => ?_)
  have hP : va_P (dC, dI) vwCl [(h0, .inr (9, [.ref q_1, .null, .null, .int 0, .int 0, .int 0])), (q_1, .inl (k_2, 3575, .inl (fun _ => 0)))] H := hP
  have hD : va_D A [(h0, .inr (9, [.ref q_1, .null, .null, .int 0, .int 0, .int 0])), (q_1, .inl (k_2, 3575, .inl (fun _ => 0)))] := hD
  refine lv_aload_n hx hb dX9_init_13 rfl (lv_at hl 0 rfl) ?_
  refine lv_sipush (v := 3575) hx hb dX9_init_14 (by decide) ?_
  refine va_newa (atype := .int) (ty := .int) (a0 := (3575, .inl (fun _ => 0))) hx hb (hts _ (List.mem_cons_of_mem _ mGA_48)) rfl hK hP hD hS hA (fun _ => rfl) (by decide) (by decide) (Nat.le_of_ble_eq_true rfl) (Nat.le_of_ble_eq_true rfl) (Nat.le_of_ble_eq_true rfl) dX9_init_17 (fun q_3 k_4 H hK hP hD hS => ?_)
  have hP : va_P (dC, dI) vwCl [(h0, .inr (9, [.ref q_1, .null, .null, .int 0, .int 0, .int 0])), (q_1, .inl (k_2, 3575, .inl (fun _ => 0))), (q_3, .inl (k_4, 3575, .inl (fun _ => 0)))] H := hP
  have hD : va_D A [(h0, .inr (9, [.ref q_1, .null, .null, .int 0, .int 0, .int 0])), (q_1, .inl (k_2, 3575, .inl (fun _ => 0))), (q_3, .inl (k_4, 3575, .inl (fun _ => 0)))] := hD
  have hK : va_K (dC, dI) vwCl [(k_2, .int), (k_4, .int)] s := hK
  refine W.widen (k := 2) (n := 7150) (Nat.le_of_ble_eq_true rfl) (Nat.le_of_ble_eq_true rfl) ?_
  refine va_putF (D := (dC, dI)) (ci := 9) (v := .ref q_3) (ty := .array .int) (C := RX9) (T := TX9) (N := 6) hx hb hts (fun w h => List.mem_cons_of_mem _ (jnGA_X9 w h)) tyX9 tyX9_ok nmX9 hown hK hP hD hS 0 rfl rfl 1 (by decide) (hts _ (List.mem_cons_of_mem _ mGA_53)) (fun _ h9 => h9) rfl hin rfl (by decide +kernel) rfl rfl (Nat.le_of_ble_eq_true rfl) dX9_init_19 (fun H locs hP hD hS => ?_)
  have hP : va_P (dC, dI) vwCl [(h0, .inr (9, [.ref q_1, .ref q_3, .null, .int 0, .int 0, .int 0])), (q_1, .inl (k_2, 3575, .inl (fun _ => 0))), (q_3, .inl (k_4, 3575, .inl (fun _ => 0)))] H := hP
  have hD : va_D A [(h0, .inr (9, [.ref q_1, .ref q_3, .null, .int 0, .int 0, .int 0])), (q_1, .inl (k_2, 3575, .inl (fun _ => 0))), (q_3, .inl (k_4, 3575, .inl (fun _ => 0)))] := hD
  refine lv_aload_n hx hb dX9_init_22 rfl (lv_at hl 0 rfl) ?_
  refine lv_sipush (v := 325) hx hb dX9_init_23 (by decide) ?_
  refine va_newa (atype := .int) (ty := .int) (a0 := (325, .inl (fun _ => 0))) hx hb (hts _ (List.mem_cons_of_mem _ mGA_48)) rfl hK hP hD hS hA (fun _ => rfl) (by decide) (by decide) (Nat.le_of_ble_eq_true rfl) (Nat.le_of_ble_eq_true rfl) (Nat.le_of_ble_eq_true rfl) dX9_init_26 (fun q_5 k_6 H hK hP hD hS => ?_)
  have hP : va_P (dC, dI) vwCl [(h0, .inr (9, [.ref q_1, .ref q_3, .null, .int 0, .int 0, .int 0])), (q_1, .inl (k_2, 3575, .inl (fun _ => 0))), (q_3, .inl (k_4, 3575, .inl (fun _ => 0))), (q_5, .inl (k_6, 325, .inl (fun _ => 0)))] H := hP
  have hD : va_D A [(h0, .inr (9, [.ref q_1, .ref q_3, .null, .int 0, .int 0, .int 0])), (q_1, .inl (k_2, 3575, .inl (fun _ => 0))), (q_3, .inl (k_4, 3575, .inl (fun _ => 0))), (q_5, .inl (k_6, 325, .inl (fun _ => 0)))] := hD
  have hK : va_K (dC, dI) vwCl [(k_2, .int), (k_4, .int), (k_6, .int)] s := hK
  refine W.widen (k := 3) (n := 7475) (Nat.le_of_ble_eq_true rfl) (Nat.le_of_ble_eq_true rfl) ?_
  refine va_putF (D := (dC, dI)) (ci := 9) (v := .ref q_5) (ty := .array .int) (C := RX9) (T := TX9) (N := 6) hx hb hts (fun w h => List.mem_cons_of_mem _ (jnGA_X9 w h)) tyX9 tyX9_ok nmX9 hown hK hP hD hS 0 rfl rfl 2 (by decide) (hts _ (List.mem_cons_of_mem _ mGA_54)) (fun _ h9 => h9) rfl hin rfl (by decide +kernel) rfl rfl (Nat.le_of_ble_eq_true rfl) dX9_init_28 (fun H locs hP hD hS => ?_)
  have hP : va_P (dC, dI) vwCl [(h0, .inr (9, [.ref q_1, .ref q_3, .ref q_5, .int 0, .int 0, .int 0])), (q_1, .inl (k_2, 3575, .inl (fun _ => 0))), (q_3, .inl (k_4, 3575, .inl (fun _ => 0))), (q_5, .inl (k_6, 325, .inl (fun _ => 0)))] H := hP
  have hD : va_D A [(h0, .inr (9, [.ref q_1, .ref q_3, .ref q_5, .int 0, .int 0, .int 0])), (q_1, .inl (k_2, 3575, .inl (fun _ => 0))), (q_3, .inl (k_4, 3575, .inl (fun _ => 0))), (q_5, .inl (k_6, 325, .inl (fun _ => 0)))] := hD
  exact W.vret hx hb hr (fun t ht hW => ⟨⟨(), rfl, trivial, trivial⟩, hS.F ht⟩) hS.2.2 dX9_init_31
theorem dX8_init_0 : decode cX8_init 0 = .ok (.aload_n 0, 1) := by decide +kernel
theorem dX8_init_1 : decode cX8_init 1 = .ok (.invokespecial 3, 3) := by decide +kernel
theorem dX8_init_4 : decode cX8_init 4 = .ok (.aload_n 0, 1) := by decide +kernel
theorem dX8_init_5 : decode cX8_init 5 = .ok (.sipush 325, 3) := by decide +kernel
theorem dX8_init_8 : decode cX8_init 8 = .ok (.newarray .int, 2) := by decide +kernel
theorem dX8_init_10 : decode cX8_init 10 = .ok (.putfield 9, 3) := by decide +kernel
theorem dX8_init_13 : decode cX8_init 13 = .ok (.aload_n 0, 1) := by decide +kernel
theorem dX8_init_14 : decode cX8_init 14 = .ok (.sipush 3575, 3) := by decide +kernel
theorem dX8_init_17 : decode cX8_init 17 = .ok (.newarray .int, 2) := by decide +kernel
theorem dX8_init_19 : decode cX8_init 19 = .ok (.putfield 15, 3) := by decide +kernel
theorem dX8_init_22 : decode cX8_init 22 = .ok (.return_, 1) := by decide +kernel
set_option maxHeartbeats 4000000 in
set_option maxRecDepth 100000 in
theorem fX8_init (l : Launch) (dC : Nat → ClassId) (dI : Nat → Nat → Nat) (sz : Nat) (h0 : Nat) : Met l yX8_init (.code yX8_init cX8_init 1 none :: wsGA) ({ frames := 1, cells := 2, slots := 3900, locals := 12 }) (va_Pc [.ref h0] (fun U => U.heap.size = sz ∧ va_P (dC, dI) vwCl [(h0, .inr (8, [.null, .null, .int 0, .int 0, .int 0]))] U.heap ∧ va_K (dC, dI) vwCl [] U ∧ va_D (fun _ => True) [(h0, .inr (8, [.null, .null, .int 0, .int 0, .int 0]))])) (va_Qv (fun (u : Unit) => True) (fun _ _ => True) (va_A [(h0, .inr (8, [.null, .null, .int 0, .int 0, .int 0]))] sz)) 2 3900 (va_A [(h0, .inr (8, [.null, .null, .int 0, .int 0, .int 0]))] sz) := by
  refine Met.ofW (cc := cX8_init) (maxL := 1) (ret := none) (by decide) rfl ?_
  intro p e s m args below meth c s₁ B hml hv
  obtain ⟨rfl, hsz, hP, hK, hD0⟩ := hv
  have hx := B.exec
  have hb := B.bytes
  have hr := B.returns
  have hts := atoms_spec (ws := (.code yX8_init cX8_init 1 none :: wsGA)) B.pre
  have hown : s.vm.findClass RX8 = some m.cls := findClass_of_methodNamed B.named
  have hlocks := B.notSynchronized
  have hin : meth.name = "<init>" := (name_of_methodNamed B.named B.method).1
  subst hsz
  have hD := hD0.self (sz := s.heap.size)
  generalize hAe : va_A [(h0, .inr (8, [.null, .null, .int 0, .int 0, .int 0]))] s.heap.size = A at hD ⊢
  have hA : ∀ q : Nat, s.heap.size ≤ q → A q := fun q h => by rw [← hAe]; exact Or.inr h
  have hS : va_S A s.heap s.heap [] := va_S.rf
  have hl := lv_entry ([.ref h0]) (n := 1) (Nat.le_of_ble_eq_true rfl)
  rw [lg_entry_eq]
  generalize (lg_sl ([.ref h0]) ++ List.replicate (1 - (lg_sl ([.ref h0])).length) Slot.unset).toArray = ls at hl ⊢
  have hl : lv_has ls 1 [(0, .ref h0)] := hl
  refine lv_aload_n hx hb dX8_init_0 rfl (lv_at hl 0 rfl) ?_
  refine W.objInit hx hb hown (hts _ (List.mem_cons_of_mem _ mGA_55)) (hts _ (List.mem_cons_of_mem _ mGA_43)) (hts _ (List.mem_cons_of_mem _ mGA_44)) rfl (by rw [hml]; exact hl.1) rfl dX8_init_1 (Nat.le_of_ble_eq_true rfl) (Nat.le_of_ble_eq_true rfl) ?_
  refine W.eq (g2 := F0 m 4 ls []) rfl ?_
  refine lv_aload_n hx hb dX8_init_4 rfl (lv_at hl 0 rfl) ?_
  refine lv_sipush (v := 325) hx hb dX8_init_5 (by decide) ?_
  refine va_newa (atype := .int) (ty := .int) (a0 := (325, .inl (fun _ => 0))) hx hb (hts _ (List.mem_cons_of_mem _ mGA_48)) rfl hK hP hD hS hA (fun _ => rfl) (by decide) (by decide) (Nat.le_of_ble_eq_true rfl) (Nat.le_of_ble_eq_true rfl) (Nat.le_of_ble_eq_true rfl) dX8_init_8 (fun q_1 k_2 H hK hP hD hS => ?_)
  have hP : va_P (dC, dI) vwCl [(h0, .inr (8, [.null, .null, .int 0, .int 0, .int 0])), (q_1, .inl (k_2, 325, .inl (fun _ => 0)))] H := hP
  have hD : va_D A [(h0, .inr (8, [.null, .null, .int 0, .int 0, .int 0])), (q_1, .inl (k_2, 325, .inl (fun _ => 0)))] := hD
  have hK : va_K (dC, dI) vwCl [(k_2, .int)] s := hK
  refine W.widen (k := 1) (n := 325) (Nat.le_of_ble_eq_true rfl) (Nat.le_of_ble_eq_true rfl) ?_
  refine va_putF (D := (dC, dI)) (ci := 8) (v := .ref q_1) (ty := .array .int) (C := RX8) (T := TX8) (N := 5) hx hb hts (fun w h => List.mem_cons_of_mem _ (jnGA_X8 w h)) tyX8 tyX8_ok nmX8 hown hK hP hD hS 0 rfl rfl 0 (by decide) (hts _ (List.mem_cons_of_mem _ mGA_56)) (fun _ h9 => h9) rfl hin rfl (by decide +kernel) rfl rfl (Nat.le_of_ble_eq_true rfl) dX8_init_10 (fun H locs hP hD hS => ?_)
  have hP : va_P (dC, dI) vwCl [(h0, .inr (8, [.ref q_1, .null, .int 0, .int 0, .int 0])), (q_1, .inl (k_2, 325, .inl (fun _ => 0)))] H := hP
  have hD : va_D A [(h0, .inr (8, [.ref q_1, .null, .int 0, .int 0, .int 0])), (q_1, .inl (k_2, 325, .inl (fun _ => 0)))] := hD
  refine lv_aload_n hx hb dX8_init_13 rfl (lv_at hl 0 rfl) ?_
  refine lv_sipush (v := 3575) hx hb dX8_init_14 (by decide) ?_
  refine va_newa (atype := .int) (ty := .int) (a0 := (3575, .inl (fun _ => 0))) hx hb (hts _ (List.mem_cons_of_mem _ mGA_48)) rfl hK hP hD hS hA (fun _ => rfl) (by decide) (by decide) (Nat.le_of_ble_eq_true rfl) (Nat.le_of_ble_eq_true rfl) (Nat.le_of_ble_eq_true rfl) dX8_init_17 (fun q_3 k_4 H hK hP hD hS => ?_)
  have hP : va_P (dC, dI) vwCl [(h0, .inr (8, [.ref q_1, .null, .int 0, .int 0, .int 0])), (q_1, .inl (k_2, 325, .inl (fun _ => 0))), (q_3, .inl (k_4, 3575, .inl (fun _ => 0)))] H := hP
  have hD : va_D A [(h0, .inr (8, [.ref q_1, .null, .int 0, .int 0, .int 0])), (q_1, .inl (k_2, 325, .inl (fun _ => 0))), (q_3, .inl (k_4, 3575, .inl (fun _ => 0)))] := hD
  have hK : va_K (dC, dI) vwCl [(k_2, .int), (k_4, .int)] s := hK
  refine W.widen (k := 2) (n := 3900) (Nat.le_of_ble_eq_true rfl) (Nat.le_of_ble_eq_true rfl) ?_
  refine va_putF (D := (dC, dI)) (ci := 8) (v := .ref q_3) (ty := .array .int) (C := RX8) (T := TX8) (N := 5) hx hb hts (fun w h => List.mem_cons_of_mem _ (jnGA_X8 w h)) tyX8 tyX8_ok nmX8 hown hK hP hD hS 0 rfl rfl 1 (by decide) (hts _ (List.mem_cons_of_mem _ mGA_57)) (fun _ h9 => h9) rfl hin rfl (by decide +kernel) rfl rfl (Nat.le_of_ble_eq_true rfl) dX8_init_19 (fun H locs hP hD hS => ?_)
  have hP : va_P (dC, dI) vwCl [(h0, .inr (8, [.ref q_1, .ref q_3, .int 0, .int 0, .int 0])), (q_1, .inl (k_2, 325, .inl (fun _ => 0))), (q_3, .inl (k_4, 3575, .inl (fun _ => 0)))] H := hP
  have hD : va_D A [(h0, .inr (8, [.ref q_1, .ref q_3, .int 0, .int 0, .int 0])), (q_1, .inl (k_2, 325, .inl (fun _ => 0))), (q_3, .inl (k_4, 3575, .inl (fun _ => 0)))] := hD
  exact W.vret hx hb hr (fun t ht hW => ⟨⟨(), rfl, trivial, trivial⟩, hS.F ht⟩) hS.2.2 dX8_init_22
theorem dX4_init_0 : decode cX4_init 0 = .ok (.aload_n 0, 1) := by decide +kernel
theorem dX4_init_1 : decode cX4_init 1 = .ok (.invokespecial 3, 3) := by decide +kernel
theorem dX4_init_4 : decode cX4_init 4 = .ok (.aload_n 0, 1) := by decide +kernel
theorem dX4_init_5 : decode cX4_init 5 = .ok (.bipush 25, 2) := by decide +kernel
theorem dX4_init_7 : decode cX4_init 7 = .ok (.newarray .int, 2) := by decide +kernel
theorem dX4_init_9 : decode cX4_init 9 = .ok (.putfield 11, 3) := by decide +kernel
theorem dX4_init_12 : decode cX4_init 12 = .ok (.aload_n 0, 1) := by decide +kernel
theorem dX4_init_13 : decode cX4_init 13 = .ok (.sipush 625, 3) := by decide +kernel
theorem dX4_init_16 : decode cX4_init 16 = .ok (.newarray .int, 2) := by decide +kernel
theorem dX4_init_18 : decode cX4_init 18 = .ok (.putfield 15, 3) := by decide +kernel
theorem dX4_init_21 : decode cX4_init 21 = .ok (.aload_n 0, 1) := by decide +kernel
theorem dX4_init_22 : decode cX4_init 22 = .ok (.iconst 0, 1) := by decide +kernel
theorem dX4_init_23 : decode cX4_init 23 = .ok (.putfield 18, 3) := by decide +kernel
theorem dX4_init_26 : decode cX4_init 26 = .ok (.return_, 1) := by decide +kernel
set_option maxHeartbeats 4000000 in
set_option maxRecDepth 100000 in
theorem fX4_init (l : Launch) (dC : Nat → ClassId) (dI : Nat → Nat → Nat) (sz : Nat) (h0 : Nat) : Met l yX4_init (.code yX4_init cX4_init 1 none :: wsGA) ({ frames := 1, cells := 2, slots := 650, locals := 12 }) (va_Pc [.ref h0] (fun U => U.heap.size = sz ∧ va_P (dC, dI) vwCl [(h0, .inr (4, [.null, .null, .int 0]))] U.heap ∧ va_K (dC, dI) vwCl [] U ∧ va_D (fun _ => True) [(h0, .inr (4, [.null, .null, .int 0]))])) (va_Qv (fun (u : Unit) => True) (fun _ _ => True) (va_A [(h0, .inr (4, [.null, .null, .int 0]))] sz)) 2 650 (va_A [(h0, .inr (4, [.null, .null, .int 0]))] sz) := by
  refine Met.ofW (cc := cX4_init) (maxL := 1) (ret := none) (by decide) rfl ?_
  intro p e s m args below meth c s₁ B hml hv
  obtain ⟨rfl, hsz, hP, hK, hD0⟩ := hv
  have hx := B.exec
  have hb := B.bytes
  have hr := B.returns
  have hts := atoms_spec (ws := (.code yX4_init cX4_init 1 none :: wsGA)) B.pre
  have hown : s.vm.findClass RX4 = some m.cls := findClass_of_methodNamed B.named
  have hlocks := B.notSynchronized
  have hin : meth.name = "<init>" := (name_of_methodNamed B.named B.method).1
  subst hsz
  have hD := hD0.self (sz := s.heap.size)
  generalize hAe : va_A [(h0, .inr (4, [.null, .null, .int 0]))] s.heap.size = A at hD ⊢
  have hA : ∀ q : Nat, s.heap.size ≤ q → A q := fun q h => by rw [← hAe]; exact Or.inr h
  have hS : va_S A s.heap s.heap [] := va_S.rf
  have hl := lv_entry ([.ref h0]) (n := 1) (Nat.le_of_ble_eq_true rfl)
  rw [lg_entry_eq]
  generalize (lg_sl ([.ref h0]) ++ List.replicate (1 - (lg_sl ([.ref h0])).length) Slot.unset).toArray = ls at hl ⊢
  have hl : lv_has ls 1 [(0, .ref h0)] := hl
  refine lv_aload_n hx hb dX4_init_0 rfl (lv_at hl 0 rfl) ?_
  refine W.objInit hx hb hown (hts _ (List.mem_cons_of_mem _ mGA_58)) (hts _ (List.mem_cons_of_mem _ mGA_43)) (hts _ (List.mem_cons_of_mem _ mGA_44)) rfl (by rw [hml]; exact hl.1) rfl dX4_init_1 (Nat.le_of_ble_eq_true rfl) (Nat.le_of_ble_eq_true rfl) ?_
  refine W.eq (g2 := F0 m 4 ls []) rfl ?_
  refine lv_aload_n hx hb dX4_init_4 rfl (lv_at hl 0 rfl) ?_
  refine lv_bipush (v := 25) hx hb dX4_init_5 (by decide) ?_
  refine va_newa (atype := .int) (ty := .int) (a0 := (25, .inl (fun _ => 0))) hx hb (hts _ (List.mem_cons_of_mem _ mGA_48)) rfl hK hP hD hS hA (fun _ => rfl) (by decide) (by decide) (Nat.le_of_ble_eq_true rfl) (Nat.le_of_ble_eq_true rfl) (Nat.le_of_ble_eq_true rfl) dX4_init_7 (fun q_1 k_2 H hK hP hD hS => ?_)
  have hP : va_P (dC, dI) vwCl [(h0, .inr (4, [.null, .null, .int 0])), (q_1, .inl (k_2, 25, .inl (fun _ => 0)))] H := hP
  have hD : va_D A [(h0, .inr (4, [.null, .null, .int 0])), (q_1, .inl (k_2, 25, .inl (fun _ => 0)))] := hD
  have hK : va_K (dC, dI) vwCl [(k_2, .int)] s := hK
  refine W.widen (k := 1) (n := 25) (Nat.le_of_ble_eq_true rfl) (Nat.le_of_ble_eq_true rfl) ?_
  refine va_putF (D := (dC, dI)) (ci := 4) (v := .ref q_1) (ty := .array .int) (C := RX4) (T := TX4) (N := 3) hx hb hts (fun w h => List.mem_cons_of_mem _ (jnGA_X4 w h)) tyX4 tyX4_ok nmX4 hown hK hP hD hS 0 rfl rfl 0 (by decide) (hts _ (List.mem_cons_of_mem _ mGA_59)) (fun _ h9 => h9) rfl hin rfl (by decide +kernel) rfl rfl (Nat.le_of_ble_eq_true rfl) dX4_init_9 (fun H locs hP hD hS => ?_)
  have hP : va_P (dC, dI) vwCl [(h0, .inr (4, [.ref q_1, .null, .int 0])), (q_1, .inl (k_2, 25, .inl (fun _ => 0)))] H := hP
  have hD : va_D A [(h0, .inr (4, [.ref q_1, .null, .int 0])), (q_1, .inl (k_2, 25, .inl (fun _ => 0)))] := hD
  refine lv_aload_n hx hb dX4_init_12 rfl (lv_at hl 0 rfl) ?_
  refine lv_sipush (v := 625) hx hb dX4_init_13 (by decide) ?_
  refine va_newa (atype := .int) (ty := .int) (a0 := (625, .inl (fun _ => 0))) hx hb (hts _ (List.mem_cons_of_mem _ mGA_48)) rfl hK hP hD hS hA (fun _ => rfl) (by decide) (by decide) (Nat.le_of_ble_eq_true rfl) (Nat.le_of_ble_eq_true rfl) (Nat.le_of_ble_eq_true rfl) dX4_init_16 (fun q_3 k_4 H hK hP hD hS => ?_)
  have hP : va_P (dC, dI) vwCl [(h0, .inr (4, [.ref q_1, .null, .int 0])), (q_1, .inl (k_2, 25, .inl (fun _ => 0))), (q_3, .inl (k_4, 625, .inl (fun _ => 0)))] H := hP
  have hD : va_D A [(h0, .inr (4, [.ref q_1, .null, .int 0])), (q_1, .inl (k_2, 25, .inl (fun _ => 0))), (q_3, .inl (k_4, 625, .inl (fun _ => 0)))] := hD
  have hK : va_K (dC, dI) vwCl [(k_2, .int), (k_4, .int)] s := hK
  refine W.widen (k := 2) (n := 650) (Nat.le_of_ble_eq_true rfl) (Nat.le_of_ble_eq_true rfl) ?_
  refine va_putF (D := (dC, dI)) (ci := 4) (v := .ref q_3) (ty := .array .int) (C := RX4) (T := TX4) (N := 3) hx hb hts (fun w h => List.mem_cons_of_mem _ (jnGA_X4 w h)) tyX4 tyX4_ok nmX4 hown hK hP hD hS 0 rfl rfl 1 (by decide) (hts _ (List.mem_cons_of_mem _ mGA_60)) (fun _ h9 => h9) rfl hin rfl (by decide +kernel) rfl rfl (Nat.le_of_ble_eq_true rfl) dX4_init_18 (fun H locs hP hD hS => ?_)
  have hP : va_P (dC, dI) vwCl [(h0, .inr (4, [.ref q_1, .ref q_3, .int 0])), (q_1, .inl (k_2, 25, .inl (fun _ => 0))), (q_3, .inl (k_4, 625, .inl (fun _ => 0)))] H := hP
  have hD : va_D A [(h0, .inr (4, [.ref q_1, .ref q_3, .int 0])), (q_1, .inl (k_2, 25, .inl (fun _ => 0))), (q_3, .inl (k_4, 625, .inl (fun _ => 0)))] := hD
  refine lv_aload_n hx hb dX4_init_21 rfl (lv_at hl 0 rfl) ?_
  refine lv_iconst (v := 0) hx hb dX4_init_22 (by decide) ?_
  refine va_put (D := (dC, dI)) (ci := 4) (v := .int 0) (ty := .int) (C := RX4) (T := TX4) (N := 3) hx hb hts (fun w h => List.mem_cons_of_mem _ (jnGA_X4 w h)) tyX4 tyX4_ok nmX4 hown hK hP hD hS 0 rfl rfl 2 (by decide) (hts _ (List.mem_cons_of_mem _ mGA_61)) (fun _ h9 => h9) rfl (by decide +kernel) rfl rfl (Nat.le_of_ble_eq_true rfl) dX4_init_23 (fun H locs hP hD hS => ?_)
  have hP : va_P (dC, dI) vwCl [(h0, .inr (4, [.ref q_1, .ref q_3, .int 0])), (q_1, .inl (k_2, 25, .inl (fun _ => 0))), (q_3, .inl (k_4, 625, .inl (fun _ => 0)))] H := hP
  have hD : va_D A [(h0, .inr (4, [.ref q_1, .ref q_3, .int 0])), (q_1, .inl (k_2, 25, .inl (fun _ => 0))), (q_3, .inl (k_4, 625, .inl (fun _ => 0)))] := hD
  exact W.vret hx hb hr (fun t ht hW => ⟨⟨(), rfl, trivial, trivial⟩, hS.F ht⟩) hS.2.2 dX4_init_26
theorem dX1_init_0 : decode cX1_init 0 = .ok (.aload_n 0, 1) := by decide +kernel
theorem dX1_init_1 : decode cX1_init 1 = .ok (.invokespecial 3, 3) := by decide +kernel
theorem dX1_init_4 : decode cX1_init 4 = .ok (.aload_n 0, 1) := by decide +kernel
theorem dX1_init_5 : decode cX1_init 5 = .ok (.new 9, 3) := by decide +kernel
theorem dX1_init_8 : decode cX1_init 8 = .ok (.dup, 1) := by decide +kernel
theorem dX1_init_9 : decode cX1_init 9 = .ok (.invokespecial 11, 3) := by decide +kernel
theorem dX1_init_12 : decode cX1_init 12 = .ok (.putfield 12, 3) := by decide +kernel
theorem dX1_init_15 : decode cX1_init 15 = .ok (.aload_n 0, 1) := by decide +kernel
theorem dX1_init_16 : decode cX1_init 16 = .ok (.bipush 24, 2) := by decide +kernel
theorem dX1_init_18 : decode cX1_init 18 = .ok (.newarray .int, 2) := by decide +kernel
theorem dX1_init_20 : decode cX1_init 20 = .ok (.putfield 18, 3) := by decide +kernel
theorem dX1_init_23 : decode cX1_init 23 = .ok (.aload_n 0, 1) := by decide +kernel
theorem dX1_init_24 : decode cX1_init 24 = .ok (.bipush 24, 2) := by decide +kernel
theorem dX1_init_26 : decode cX1_init 26 = .ok (.newarray .int, 2) := by decide +kernel
theorem dX1_init_28 : decode cX1_init 28 = .ok (.putfield 22, 3) := by decide +kernel
theorem dX1_init_31 : decode cX1_init 31 = .ok (.aload_n 0, 1) := by decide +kernel
theorem dX1_init_32 : decode cX1_init 32 = .ok (.bipush 24, 2) := by decide +kernel
theorem dX1_init_34 : decode cX1_init 34 = .ok (.newarray .long, 2) := by decide +kernel
theorem dX1_init_36 : decode cX1_init 36 = .ok (.putfield 25, 3) := by decide +kernel
theorem dX1_init_39 : decode cX1_init 39 = .ok (.aload_n 0, 1) := by decide +kernel
theorem dX1_init_40 : decode cX1_init 40 = .ok (.bipush 25, 2) := by decide +kernel
theorem dX1_init_42 : decode cX1_init 42 = .ok (.newarray .int, 2) := by decide +kernel
theorem dX1_init_44 : decode cX1_init 44 = .ok (.putfield 29, 3) := by decide +kernel
theorem dX1_init_47 : decode cX1_init 47 = .ok (.aload_n 0, 1) := by decide +kernel
theorem dX1_init_48 : decode cX1_init 48 = .ok (.iconst 0, 1) := by decide +kernel
theorem dX1_init_49 : decode cX1_init 49 = .ok (.putfield 32, 3) := by decide +kernel
theorem dX1_init_52 : decode cX1_init 52 = .ok (.aload_n 0, 1) := by decide +kernel
theorem dX1_init_53 : decode cX1_init 53 = .ok (.iconst 0, 1) := by decide +kernel
theorem dX1_init_54 : decode cX1_init 54 = .ok (.putfield 36, 3) := by decide +kernel
theorem dX1_init_57 : decode cX1_init 57 = .ok (.return_, 1) := by decide +kernel
set_option maxHeartbeats 4000000 in
set_option maxRecDepth 100000 in
theorem fX1_init (l : Launch) (dC : Nat → ClassId) (dI : Nat → Nat → Nat) (sz : Nat) (h0 : Nat) : Met l yX1_init (.code yX1_init cX1_init 1 none :: wsGA) ({ frames := 2, cells := 7, slots := 402, locals := 32 }) (va_Pc [.ref h0] (fun U => U.heap.size = sz ∧ va_P (dC, dI) vwCl [(h0, .inr (1, [.null, .null, .null, .null, .null, .int 0, .int 0]))] U.heap ∧ va_K (dC, dI) vwCl [] U ∧ va_D (fun _ => True) [(h0, .inr (1, [.null, .null, .null, .null, .null, .int 0, .int 0]))] ∧ nzA U)) (va_Qv (fun (u : Unit) => True) (fun _ _ => True) (va_A [(h0, .inr (1, [.null, .null, .null, .null, .null, .int 0, .int 0]))] sz)) 7 402 (va_A [(h0, .inr (1, [.null, .null, .null, .null, .null, .int 0, .int 0]))] sz) := by
  refine Met.ofW (cc := cX1_init) (maxL := 1) (ret := none) (by decide) rfl ?_
  intro p e s m args below meth c s₁ B hml hv
  obtain ⟨rfl, hsz, hP, hK, hD0, hz⟩ := hv
  have hx := B.exec
  have hb := B.bytes
  have hr := B.returns
  have hts := atoms_spec (ws := (.code yX1_init cX1_init 1 none :: wsGA)) B.pre
  have hown : s.vm.findClass RX1 = some m.cls := findClass_of_methodNamed B.named
  have hlocks := B.notSynchronized
  have hin : meth.name = "<init>" := (name_of_methodNamed B.named B.method).1
  subst hsz
  have hD := hD0.self (sz := s.heap.size)
  generalize hAe : va_A [(h0, .inr (1, [.null, .null, .null, .null, .null, .int 0, .int 0]))] s.heap.size = A at hD ⊢
  have hA : ∀ q : Nat, s.heap.size ≤ q → A q := fun q h => by rw [← hAe]; exact Or.inr h
  have hS : va_S A s.heap s.heap [] := va_S.rf
  have hl := lv_entry ([.ref h0]) (n := 1) (Nat.le_of_ble_eq_true rfl)
  rw [lg_entry_eq]
  generalize (lg_sl ([.ref h0]) ++ List.replicate (1 - (lg_sl ([.ref h0])).length) Slot.unset).toArray = ls at hl ⊢
  have hl : lv_has ls 1 [(0, .ref h0)] := hl
  refine lv_aload_n hx hb dX1_init_0 rfl (lv_at hl 0 rfl) ?_
  refine W.objInit hx hb hown (hts _ (List.mem_cons_of_mem _ mGA_62)) (hts _ (List.mem_cons_of_mem _ mGA_43)) (hts _ (List.mem_cons_of_mem _ mGA_44)) rfl (by rw [hml]; exact hl.1) rfl dX1_init_1 (Nat.le_of_ble_eq_true rfl) (Nat.le_of_ble_eq_true rfl) ?_
  refine W.eq (g2 := F0 m 4 ls []) rfl ?_
  refine lv_aload_n hx hb dX1_init_4 rfl (lv_at hl 0 rfl) ?_
  refine va_new (ci := 3) (fs := [.int 0, .int 0, .int 0, .null, .null]) (C := RX3) (T := TX3) (N := 5) hx hb hts (fun w h => List.mem_cons_of_mem _ (jnGA_X3 w h)) tyX3 tyX3_ok hown (hts _ (List.mem_cons_of_mem _ mGA_63)) (hts _ (List.mem_cons_of_mem _ mGA_64)) (hts _ (List.mem_cons_of_mem _ mGA_65)) hK hP hD hS hA rfl dfX3 (Nat.le_of_ble_eq_true rfl) (Nat.le_of_ble_eq_true rfl) dX1_init_5 (fun q_1 H hP hD hS => ?_)
  have hP : va_P (dC, dI) vwCl [(h0, .inr (1, [.null, .null, .null, .null, .null, .int 0, .int 0])), (q_1, .inr (3, [.int 0, .int 0, .int 0, .null, .null]))] H := hP
  have hD : va_D A [(h0, .inr (1, [.null, .null, .null, .null, .null, .int 0, .int 0])), (q_1, .inr (3, [.int 0, .int 0, .int 0, .null, .null]))] := hD
  refine W.widen (k := 1) (n := 5) (Nat.le_of_ble_eq_true rfl) (Nat.le_of_ble_eq_true rfl) ?_
  refine lv_dup hx hb dX1_init_8 rfl ?_
  have hPc := hP.sub (ws' := [(q_1, .inr (3, [.int 0, .int 0, .int 0, .null, .null]))]) [1] rfl
  have hDc := hD.sub (ws' := [(q_1, .inr (3, [.int 0, .int 0, .int 0, .null, .null]))]) [1] (by decide) rfl
  have hKc := hK.sub (tys' := []) [] rfl
  have hFc := va_free (wc := [(q_1, .inr (3, [.int 0, .int 0, .int 0, .null, .null]))]) hD hS hA [1] rfl
  refine va_callv (va_runIN (As := []) (rest := [.ref q_1, .ref h0]) ⟨hx, hb, hml, hown, hts⟩ (fX3_init l dC dI H.size q_1) (⟨va_cnB 0 hts (gz_gP mGA_66 goodGA) rfl rfl rfl (nzA_X1_11 hz) (hts _ (List.mem_cons_of_mem _ mGA_65)) (by decide +kernel) ⟨Nat.le_of_ble_eq_true rfl, Nat.le_of_ble_eq_true rfl⟩, rfl, (hts _ (List.mem_cons_of_mem _ mGA_67))⟩) ⟨fun a U g mk q => by obtain ⟨q0, q1, qP, qK, qD⟩ := q; exact ⟨q0, q1, qP, va_K.moved (u := U) (U := U.calling g mk a) (Vm.Alike.refl U.vm) qK, qD⟩, fun U hU hW => ⟨rfl, by rw [hU], by rw [hU]; exact hPc, va_K.moved hW.alike hKc, hDc.weaken (fun _ _ _ _ => trivial)⟩⟩ rfl rfl hl.1 rfl (lv_room (Nat.le_of_ble_eq_true rfl)) dX1_init_9 ⟨Nat.le_of_ble_eq_true rfl, Nat.le_of_ble_eq_true rfl⟩) hS (fun q _ h => hFc q h) hFc (fun  u t H1 locs ht hvm hw hB hz1 hk1 hS => ?_)
  obtain ⟨hP, hD⟩ := va_join (wr := [(h0, .inr (1, [.null, .null, .null, .null, .null, .int 0, .int 0]))]) (w1 := []) hP hD [1] [0] rfl rfl (by decide) (by decide) hk1 hFc gz_P0 gz_D0
  generalize H1 = H at hP hS ⊢
  have hP : va_P (dC, dI) vwCl [(h0, .inr (1, [.null, .null, .null, .null, .null, .int 0, .int 0]))] H := hP
  have hD : va_D A [(h0, .inr (1, [.null, .null, .null, .null, .null, .int 0, .int 0]))] := hD
  refine W.widen (k := 3) (n := 305) (Nat.le_of_ble_eq_true rfl) (Nat.le_of_ble_eq_true rfl) ?_
  refine va_putF (D := (dC, dI)) (ci := 1) (v := .ref q_1) (ty := .object "SightedMonths$Frame") (C := RX1) (T := TX1) (N := 7) hx hb hts (fun w h => List.mem_cons_of_mem _ (jnGA_X1 w h)) tyX1 tyX1_ok nmX1 hown hK hP hD hS 0 rfl rfl 0 (by decide) (hts _ (List.mem_cons_of_mem _ mGA_68)) (fun _ h9 => h9) rfl hin rfl (by decide +kernel) rfl rfl (Nat.le_of_ble_eq_true rfl) dX1_init_12 (fun H locs hP hD hS => ?_)
  have hP : va_P (dC, dI) vwCl [(h0, .inr (1, [.ref q_1, .null, .null, .null, .null, .int 0, .int 0]))] H := hP
  have hD : va_D A [(h0, .inr (1, [.ref q_1, .null, .null, .null, .null, .int 0, .int 0]))] := hD
  refine lv_aload_n hx hb dX1_init_15 rfl (lv_at hl 0 rfl) ?_
  refine lv_bipush (v := 24) hx hb dX1_init_16 (by decide) ?_
  refine va_newa (atype := .int) (ty := .int) (a0 := (24, .inl (fun _ => 0))) hx hb (hts _ (List.mem_cons_of_mem _ mGA_48)) rfl hK hP hD hS hA (fun _ => rfl) (by decide) (by decide) (Nat.le_of_ble_eq_true rfl) (Nat.le_of_ble_eq_true rfl) (Nat.le_of_ble_eq_true rfl) dX1_init_18 (fun q_3 k_4 H hK hP hD hS => ?_)
  have hP : va_P (dC, dI) vwCl [(h0, .inr (1, [.ref q_1, .null, .null, .null, .null, .int 0, .int 0])), (q_3, .inl (k_4, 24, .inl (fun _ => 0)))] H := hP
  have hD : va_D A [(h0, .inr (1, [.ref q_1, .null, .null, .null, .null, .int 0, .int 0])), (q_3, .inl (k_4, 24, .inl (fun _ => 0)))] := hD
  have hK : va_K (dC, dI) vwCl [(k_4, .int)] s := hK
  refine W.widen (k := 4) (n := 329) (Nat.le_of_ble_eq_true rfl) (Nat.le_of_ble_eq_true rfl) ?_
  refine va_putF (D := (dC, dI)) (ci := 1) (v := .ref q_3) (ty := .array .int) (C := RX1) (T := TX1) (N := 7) hx hb hts (fun w h => List.mem_cons_of_mem _ (jnGA_X1 w h)) tyX1 tyX1_ok nmX1 hown hK hP hD hS 0 rfl rfl 1 (by decide) (hts _ (List.mem_cons_of_mem _ mGA_69)) (fun _ h9 => h9) rfl hin rfl (by decide +kernel) rfl rfl (Nat.le_of_ble_eq_true rfl) dX1_init_20 (fun H locs hP hD hS => ?_)
  have hP : va_P (dC, dI) vwCl [(h0, .inr (1, [.ref q_1, .ref q_3, .null, .null, .null, .int 0, .int 0])), (q_3, .inl (k_4, 24, .inl (fun _ => 0)))] H := hP
  have hD : va_D A [(h0, .inr (1, [.ref q_1, .ref q_3, .null, .null, .null, .int 0, .int 0])), (q_3, .inl (k_4, 24, .inl (fun _ => 0)))] := hD
  refine lv_aload_n hx hb dX1_init_23 rfl (lv_at hl 0 rfl) ?_
  refine lv_bipush (v := 24) hx hb dX1_init_24 (by decide) ?_
  refine va_newa (atype := .int) (ty := .int) (a0 := (24, .inl (fun _ => 0))) hx hb (hts _ (List.mem_cons_of_mem _ mGA_48)) rfl hK hP hD hS hA (fun _ => rfl) (by decide) (by decide) (Nat.le_of_ble_eq_true rfl) (Nat.le_of_ble_eq_true rfl) (Nat.le_of_ble_eq_true rfl) dX1_init_26 (fun q_5 k_6 H hK hP hD hS => ?_)
  have hP : va_P (dC, dI) vwCl [(h0, .inr (1, [.ref q_1, .ref q_3, .null, .null, .null, .int 0, .int 0])), (q_3, .inl (k_4, 24, .inl (fun _ => 0))), (q_5, .inl (k_6, 24, .inl (fun _ => 0)))] H := hP
  have hD : va_D A [(h0, .inr (1, [.ref q_1, .ref q_3, .null, .null, .null, .int 0, .int 0])), (q_3, .inl (k_4, 24, .inl (fun _ => 0))), (q_5, .inl (k_6, 24, .inl (fun _ => 0)))] := hD
  have hK : va_K (dC, dI) vwCl [(k_4, .int), (k_6, .int)] s := hK
  refine W.widen (k := 5) (n := 353) (Nat.le_of_ble_eq_true rfl) (Nat.le_of_ble_eq_true rfl) ?_
  refine va_putF (D := (dC, dI)) (ci := 1) (v := .ref q_5) (ty := .array .int) (C := RX1) (T := TX1) (N := 7) hx hb hts (fun w h => List.mem_cons_of_mem _ (jnGA_X1 w h)) tyX1 tyX1_ok nmX1 hown hK hP hD hS 0 rfl rfl 2 (by decide) (hts _ (List.mem_cons_of_mem _ mGA_70)) (fun _ h9 => h9) rfl hin rfl (by decide +kernel) rfl rfl (Nat.le_of_ble_eq_true rfl) dX1_init_28 (fun H locs hP hD hS => ?_)
  have hP : va_P (dC, dI) vwCl [(h0, .inr (1, [.ref q_1, .ref q_3, .ref q_5, .null, .null, .int 0, .int 0])), (q_3, .inl (k_4, 24, .inl (fun _ => 0))), (q_5, .inl (k_6, 24, .inl (fun _ => 0)))] H := hP
  have hD : va_D A [(h0, .inr (1, [.ref q_1, .ref q_3, .ref q_5, .null, .null, .int 0, .int 0])), (q_3, .inl (k_4, 24, .inl (fun _ => 0))), (q_5, .inl (k_6, 24, .inl (fun _ => 0)))] := hD
  refine lv_aload_n hx hb dX1_init_31 rfl (lv_at hl 0 rfl) ?_
  refine lv_bipush (v := 24) hx hb dX1_init_32 (by decide) ?_
  refine va_newa (atype := .long) (ty := .long) (a0 := (24, .inr (.inl (fun _ => 0)))) hx hb (hts _ (List.mem_cons_of_mem _ mGA_71)) rfl hK hP hD hS hA (fun _ => rfl) (by decide) (by decide) (Nat.le_of_ble_eq_true rfl) (Nat.le_of_ble_eq_true rfl) (Nat.le_of_ble_eq_true rfl) dX1_init_34 (fun q_7 k_8 H hK hP hD hS => ?_)
  have hP : va_P (dC, dI) vwCl [(h0, .inr (1, [.ref q_1, .ref q_3, .ref q_5, .null, .null, .int 0, .int 0])), (q_3, .inl (k_4, 24, .inl (fun _ => 0))), (q_5, .inl (k_6, 24, .inl (fun _ => 0))), (q_7, .inl (k_8, 24, .inr (.inl (fun _ => 0))))] H := hP
  have hD : va_D A [(h0, .inr (1, [.ref q_1, .ref q_3, .ref q_5, .null, .null, .int 0, .int 0])), (q_3, .inl (k_4, 24, .inl (fun _ => 0))), (q_5, .inl (k_6, 24, .inl (fun _ => 0))), (q_7, .inl (k_8, 24, .inr (.inl (fun _ => 0))))] := hD
  have hK : va_K (dC, dI) vwCl [(k_4, .int), (k_6, .int), (k_8, .long)] s := hK
  refine W.widen (k := 6) (n := 377) (Nat.le_of_ble_eq_true rfl) (Nat.le_of_ble_eq_true rfl) ?_
  refine va_putF (D := (dC, dI)) (ci := 1) (v := .ref q_7) (ty := .array .long) (C := RX1) (T := TX1) (N := 7) hx hb hts (fun w h => List.mem_cons_of_mem _ (jnGA_X1 w h)) tyX1 tyX1_ok nmX1 hown hK hP hD hS 0 rfl rfl 3 (by decide) (hts _ (List.mem_cons_of_mem _ mGA_72)) (fun _ h9 => h9) rfl hin rfl (by decide +kernel) rfl rfl (Nat.le_of_ble_eq_true rfl) dX1_init_36 (fun H locs hP hD hS => ?_)
  have hP : va_P (dC, dI) vwCl [(h0, .inr (1, [.ref q_1, .ref q_3, .ref q_5, .ref q_7, .null, .int 0, .int 0])), (q_3, .inl (k_4, 24, .inl (fun _ => 0))), (q_5, .inl (k_6, 24, .inl (fun _ => 0))), (q_7, .inl (k_8, 24, .inr (.inl (fun _ => 0))))] H := hP
  have hD : va_D A [(h0, .inr (1, [.ref q_1, .ref q_3, .ref q_5, .ref q_7, .null, .int 0, .int 0])), (q_3, .inl (k_4, 24, .inl (fun _ => 0))), (q_5, .inl (k_6, 24, .inl (fun _ => 0))), (q_7, .inl (k_8, 24, .inr (.inl (fun _ => 0))))] := hD
  refine lv_aload_n hx hb dX1_init_39 rfl (lv_at hl 0 rfl) ?_
  refine lv_bipush (v := 25) hx hb dX1_init_40 (by decide) ?_
  refine va_newa (atype := .int) (ty := .int) (a0 := (25, .inl (fun _ => 0))) hx hb (hts _ (List.mem_cons_of_mem _ mGA_48)) rfl hK hP hD hS hA (fun _ => rfl) (by decide) (by decide) (Nat.le_of_ble_eq_true rfl) (Nat.le_of_ble_eq_true rfl) (Nat.le_of_ble_eq_true rfl) dX1_init_42 (fun q_9 k_10 H hK hP hD hS => ?_)
  have hP : va_P (dC, dI) vwCl [(h0, .inr (1, [.ref q_1, .ref q_3, .ref q_5, .ref q_7, .null, .int 0, .int 0])), (q_3, .inl (k_4, 24, .inl (fun _ => 0))), (q_5, .inl (k_6, 24, .inl (fun _ => 0))), (q_7, .inl (k_8, 24, .inr (.inl (fun _ => 0)))), (q_9, .inl (k_10, 25, .inl (fun _ => 0)))] H := hP
  have hD : va_D A [(h0, .inr (1, [.ref q_1, .ref q_3, .ref q_5, .ref q_7, .null, .int 0, .int 0])), (q_3, .inl (k_4, 24, .inl (fun _ => 0))), (q_5, .inl (k_6, 24, .inl (fun _ => 0))), (q_7, .inl (k_8, 24, .inr (.inl (fun _ => 0)))), (q_9, .inl (k_10, 25, .inl (fun _ => 0)))] := hD
  have hK : va_K (dC, dI) vwCl [(k_4, .int), (k_6, .int), (k_8, .long), (k_10, .int)] s := hK
  refine W.widen (k := 7) (n := 402) (Nat.le_of_ble_eq_true rfl) (Nat.le_of_ble_eq_true rfl) ?_
  refine va_putF (D := (dC, dI)) (ci := 1) (v := .ref q_9) (ty := .array .int) (C := RX1) (T := TX1) (N := 7) hx hb hts (fun w h => List.mem_cons_of_mem _ (jnGA_X1 w h)) tyX1 tyX1_ok nmX1 hown hK hP hD hS 0 rfl rfl 4 (by decide) (hts _ (List.mem_cons_of_mem _ mGA_73)) (fun _ h9 => h9) rfl hin rfl (by decide +kernel) rfl rfl (Nat.le_of_ble_eq_true rfl) dX1_init_44 (fun H locs hP hD hS => ?_)
  have hP : va_P (dC, dI) vwCl [(h0, .inr (1, [.ref q_1, .ref q_3, .ref q_5, .ref q_7, .ref q_9, .int 0, .int 0])), (q_3, .inl (k_4, 24, .inl (fun _ => 0))), (q_5, .inl (k_6, 24, .inl (fun _ => 0))), (q_7, .inl (k_8, 24, .inr (.inl (fun _ => 0)))), (q_9, .inl (k_10, 25, .inl (fun _ => 0)))] H := hP
  have hD : va_D A [(h0, .inr (1, [.ref q_1, .ref q_3, .ref q_5, .ref q_7, .ref q_9, .int 0, .int 0])), (q_3, .inl (k_4, 24, .inl (fun _ => 0))), (q_5, .inl (k_6, 24, .inl (fun _ => 0))), (q_7, .inl (k_8, 24, .inr (.inl (fun _ => 0)))), (q_9, .inl (k_10, 25, .inl (fun _ => 0)))] := hD
  refine lv_aload_n hx hb dX1_init_47 rfl (lv_at hl 0 rfl) ?_
  refine lv_iconst (v := 0) hx hb dX1_init_48 (by decide) ?_
  refine va_put (D := (dC, dI)) (ci := 1) (v := .int 0) (ty := .int) (C := RX1) (T := TX1) (N := 7) hx hb hts (fun w h => List.mem_cons_of_mem _ (jnGA_X1 w h)) tyX1 tyX1_ok nmX1 hown hK hP hD hS 0 rfl rfl 5 (by decide) (hts _ (List.mem_cons_of_mem _ mGA_74)) (fun _ h9 => h9) rfl (by decide +kernel) rfl rfl (Nat.le_of_ble_eq_true rfl) dX1_init_49 (fun H locs hP hD hS => ?_)
  have hP : va_P (dC, dI) vwCl [(h0, .inr (1, [.ref q_1, .ref q_3, .ref q_5, .ref q_7, .ref q_9, .int 0, .int 0])), (q_3, .inl (k_4, 24, .inl (fun _ => 0))), (q_5, .inl (k_6, 24, .inl (fun _ => 0))), (q_7, .inl (k_8, 24, .inr (.inl (fun _ => 0)))), (q_9, .inl (k_10, 25, .inl (fun _ => 0)))] H := hP
  have hD : va_D A [(h0, .inr (1, [.ref q_1, .ref q_3, .ref q_5, .ref q_7, .ref q_9, .int 0, .int 0])), (q_3, .inl (k_4, 24, .inl (fun _ => 0))), (q_5, .inl (k_6, 24, .inl (fun _ => 0))), (q_7, .inl (k_8, 24, .inr (.inl (fun _ => 0)))), (q_9, .inl (k_10, 25, .inl (fun _ => 0)))] := hD
  refine lv_aload_n hx hb dX1_init_52 rfl (lv_at hl 0 rfl) ?_
  refine lv_iconst (v := 0) hx hb dX1_init_53 (by decide) ?_
  refine va_put (D := (dC, dI)) (ci := 1) (v := .int 0) (ty := .int) (C := RX1) (T := TX1) (N := 7) hx hb hts (fun w h => List.mem_cons_of_mem _ (jnGA_X1 w h)) tyX1 tyX1_ok nmX1 hown hK hP hD hS 0 rfl rfl 6 (by decide) (hts _ (List.mem_cons_of_mem _ mGA_75)) (fun _ h9 => h9) rfl (by decide +kernel) rfl rfl (Nat.le_of_ble_eq_true rfl) dX1_init_54 (fun H locs hP hD hS => ?_)
  have hP : va_P (dC, dI) vwCl [(h0, .inr (1, [.ref q_1, .ref q_3, .ref q_5, .ref q_7, .ref q_9, .int 0, .int 0])), (q_3, .inl (k_4, 24, .inl (fun _ => 0))), (q_5, .inl (k_6, 24, .inl (fun _ => 0))), (q_7, .inl (k_8, 24, .inr (.inl (fun _ => 0)))), (q_9, .inl (k_10, 25, .inl (fun _ => 0)))] H := hP
  have hD : va_D A [(h0, .inr (1, [.ref q_1, .ref q_3, .ref q_5, .ref q_7, .ref q_9, .int 0, .int 0])), (q_3, .inl (k_4, 24, .inl (fun _ => 0))), (q_5, .inl (k_6, 24, .inl (fun _ => 0))), (q_7, .inl (k_8, 24, .inr (.inl (fun _ => 0)))), (q_9, .inl (k_10, 25, .inl (fun _ => 0)))] := hD
  exact W.vret hx hb hr (fun t ht hW => ⟨⟨(), rfl, trivial, trivial⟩, hS.F ht⟩) hS.2.2 dX1_init_57
theorem dX10_init_0 : decode cX10_init 0 = .ok (.aload_n 0, 1) := by decide +kernel
theorem dX10_init_1 : decode cX10_init 1 = .ok (.invokespecial 3, 3) := by decide +kernel
theorem dX10_init_4 : decode cX10_init 4 = .ok (.aload_n 0, 1) := by decide +kernel
theorem dX10_init_5 : decode cX10_init 5 = .ok (.sipush 1600, 3) := by decide +kernel
theorem dX10_init_8 : decode cX10_init 8 = .ok (.newarray .byte, 2) := by decide +kernel
theorem dX10_init_10 : decode cX10_init 10 = .ok (.putfield 9, 3) := by decide +kernel
theorem dX10_init_13 : decode cX10_init 13 = .ok (.aload_n 0, 1) := by decide +kernel
theorem dX10_init_14 : decode cX10_init 14 = .ok (.iconst 0, 1) := by decide +kernel
theorem dX10_init_15 : decode cX10_init 15 = .ok (.putfield 15, 3) := by decide +kernel
theorem dX10_init_18 : decode cX10_init 18 = .ok (.return_, 1) := by decide +kernel
set_option maxHeartbeats 4000000 in
set_option maxRecDepth 100000 in
theorem fX10_init (l : Launch) (dC : Nat → ClassId) (dI : Nat → Nat → Nat) (sz : Nat) (h0 : Nat) : Met l yX10_init (.code yX10_init cX10_init 1 none :: wsGA) ({ frames := 1, cells := 1, slots := 1600, locals := 12 }) (va_Pc [.ref h0] (fun U => U.heap.size = sz ∧ va_P (dC, dI) vwCl [(h0, .inr (10, [.null, .int 0]))] U.heap ∧ va_K (dC, dI) vwCl [] U ∧ va_D (fun _ => True) [(h0, .inr (10, [.null, .int 0]))])) (va_Qv (fun (u : Unit) => True) (fun _ t => ∃ (q1 : Nat) (k1 : ClassId), va_P (dC, dI) vwCl [(h0, .inr (10, [.ref q1, .int 0])), (q1, .inl (k1, 1600, .inl (fun _ => 0)))] t.heap ∧ va_K (dC, dI) vwCl [(k1, .byte)] t ∧ va_D (va_A [(h0, .inr (10, [.null, .int 0]))] sz) [(h0, .inr (10, [.ref q1, .int 0])), (q1, .inl (k1, 1600, .inl (fun _ => 0)))]) (va_A [(h0, .inr (10, [.null, .int 0]))] sz)) 1 1600 (va_A [(h0, .inr (10, [.null, .int 0]))] sz) := by
  refine Met.ofW (cc := cX10_init) (maxL := 1) (ret := none) (by decide) rfl ?_
  intro p e s m args below meth c s₁ B hml hv
  obtain ⟨rfl, hsz, hP, hK, hD0⟩ := hv
  have hx := B.exec
  have hb := B.bytes
  have hr := B.returns
  have hts := atoms_spec (ws := (.code yX10_init cX10_init 1 none :: wsGA)) B.pre
  have hown : s.vm.findClass RX10 = some m.cls := findClass_of_methodNamed B.named
  have hlocks := B.notSynchronized
  have hin : meth.name = "<init>" := (name_of_methodNamed B.named B.method).1
  subst hsz
  have hD := hD0.self (sz := s.heap.size)
  generalize hAe : va_A [(h0, .inr (10, [.null, .int 0]))] s.heap.size = A at hD ⊢
  have hA : ∀ q : Nat, s.heap.size ≤ q → A q := fun q h => by rw [← hAe]; exact Or.inr h
  have hS : va_S A s.heap s.heap [] := va_S.rf
  have hl := lv_entry ([.ref h0]) (n := 1) (Nat.le_of_ble_eq_true rfl)
  rw [lg_entry_eq]
  generalize (lg_sl ([.ref h0]) ++ List.replicate (1 - (lg_sl ([.ref h0])).length) Slot.unset).toArray = ls at hl ⊢
  have hl : lv_has ls 1 [(0, .ref h0)] := hl
  refine lv_aload_n hx hb dX10_init_0 rfl (lv_at hl 0 rfl) ?_
  refine W.objInit hx hb hown (hts _ (List.mem_cons_of_mem _ mGA_76)) (hts _ (List.mem_cons_of_mem _ mGA_43)) (hts _ (List.mem_cons_of_mem _ mGA_44)) rfl (by rw [hml]; exact hl.1) rfl dX10_init_1 (Nat.le_of_ble_eq_true rfl) (Nat.le_of_ble_eq_true rfl) ?_
  refine W.eq (g2 := F0 m 4 ls []) rfl ?_
  refine lv_aload_n hx hb dX10_init_4 rfl (lv_at hl 0 rfl) ?_
  refine lv_sipush (v := 1600) hx hb dX10_init_5 (by decide) ?_
  refine va_newa (atype := .byte) (ty := .byte) (a0 := (1600, .inl (fun _ => 0))) hx hb (hts _ (List.mem_cons_of_mem _ mGA_77)) rfl hK hP hD hS hA (fun _ => rfl) (by decide) (by decide) (Nat.le_of_ble_eq_true rfl) (Nat.le_of_ble_eq_true rfl) (Nat.le_of_ble_eq_true rfl) dX10_init_8 (fun q_1 k_2 H hK hP hD hS => ?_)
  have hP : va_P (dC, dI) vwCl [(h0, .inr (10, [.null, .int 0])), (q_1, .inl (k_2, 1600, .inl (fun _ => 0)))] H := hP
  have hD : va_D A [(h0, .inr (10, [.null, .int 0])), (q_1, .inl (k_2, 1600, .inl (fun _ => 0)))] := hD
  have hK : va_K (dC, dI) vwCl [(k_2, .byte)] s := hK
  refine W.widen (k := 1) (n := 1600) (Nat.le_of_ble_eq_true rfl) (Nat.le_of_ble_eq_true rfl) ?_
  refine va_putF (D := (dC, dI)) (ci := 10) (v := .ref q_1) (ty := .array .byte) (C := RX10) (T := TX10) (N := 2) hx hb hts (fun w h => List.mem_cons_of_mem _ (jnGA_X10 w h)) tyX10 tyX10_ok nmX10 hown hK hP hD hS 0 rfl rfl 0 (by decide) (hts _ (List.mem_cons_of_mem _ mGA_78)) (fun _ h9 => h9) rfl hin rfl (by decide +kernel) rfl rfl (Nat.le_of_ble_eq_true rfl) dX10_init_10 (fun H locs hP hD hS => ?_)
  have hP : va_P (dC, dI) vwCl [(h0, .inr (10, [.ref q_1, .int 0])), (q_1, .inl (k_2, 1600, .inl (fun _ => 0)))] H := hP
  have hD : va_D A [(h0, .inr (10, [.ref q_1, .int 0])), (q_1, .inl (k_2, 1600, .inl (fun _ => 0)))] := hD
  refine lv_aload_n hx hb dX10_init_13 rfl (lv_at hl 0 rfl) ?_
  refine lv_iconst (v := 0) hx hb dX10_init_14 (by decide) ?_
  refine va_put (D := (dC, dI)) (ci := 10) (v := .int 0) (ty := .int) (C := RX10) (T := TX10) (N := 2) hx hb hts (fun w h => List.mem_cons_of_mem _ (jnGA_X10 w h)) tyX10 tyX10_ok nmX10 hown hK hP hD hS 0 rfl rfl 1 (by decide) (hts _ (List.mem_cons_of_mem _ mGA_79)) (fun _ h9 => h9) rfl (by decide +kernel) rfl rfl (Nat.le_of_ble_eq_true rfl) dX10_init_15 (fun H locs hP hD hS => ?_)
  have hP : va_P (dC, dI) vwCl [(h0, .inr (10, [.ref q_1, .int 0])), (q_1, .inl (k_2, 1600, .inl (fun _ => 0)))] H := hP
  have hD : va_D A [(h0, .inr (10, [.ref q_1, .int 0])), (q_1, .inl (k_2, 1600, .inl (fun _ => 0)))] := hD
  have hP9 := hP.sub (ws' := [(h0, .inr (10, [.ref q_1, .int 0])), (q_1, .inl (k_2, 1600, .inl (fun _ => 0)))]) [0, 1] rfl
  have hD9 := hD.sub (ws' := [(h0, .inr (10, [.ref q_1, .int 0])), (q_1, .inl (k_2, 1600, .inl (fun _ => 0)))]) [0, 1] (by decide) rfl
  have hK9 := hK.sub (tys' := [(k_2, .byte)]) [0] rfl
  exact W.vret hx hb hr (fun t ht hW => ⟨⟨(), rfl, trivial, q_1, k_2, by rw [ht]; exact hP9, va_K.moved hW.alike hK9, hD9⟩, hS.F ht⟩) hS.2.2 dX10_init_18
end
section
theorem dX0_init_0 : decode cX0_init 0 = .ok (.aload_n 0, 1) := by decide +kernel
theorem dX0_init_1 : decode cX0_init 1 = .ok (.invokespecial 3, 3) := by decide +kernel
theorem dX0_init_4 : decode cX0_init 4 = .ok (.aload_n 0, 1) := by decide +kernel
theorem dX0_init_5 : decode cX0_init 5 = .ok (.bipush 6, 2) := by decide +kernel
theorem dX0_init_7 : decode cX0_init 7 = .ok (.anewarray 9, 3) := by decide +kernel
theorem dX0_init_10 : decode cX0_init 10 = .ok (.putfield 11, 3) := by decide +kernel
theorem dX0_init_13 : decode cX0_init 13 = .ok (.aload_n 0, 1) := by decide +kernel
theorem dX0_init_14 : decode cX0_init 14 = .ok (.bipush 24, 2) := by decide +kernel
theorem dX0_init_16 : decode cX0_init 16 = .ok (.anewarray 17, 3) := by decide +kernel
theorem dX0_init_19 : decode cX0_init 19 = .ok (.putfield 19, 3) := by decide +kernel
theorem dX0_init_22 : decode cX0_init 22 = .ok (.aload_n 0, 1) := by decide +kernel
theorem dX0_init_23 : decode cX0_init 23 = .ok (.bipush 8, 2) := by decide +kernel
theorem dX0_init_25 : decode cX0_init 25 = .ok (.anewarray 23, 3) := by decide +kernel
theorem dX0_init_28 : decode cX0_init 28 = .ok (.putfield 25, 3) := by decide +kernel
theorem dX0_init_31 : decode cX0_init 31 = .ok (.iconst 0, 1) := by decide +kernel
theorem dX0_init_32 : decode cX0_init 32 = .ok (.istore_n 1, 1) := by decide +kernel
theorem dX0_init_33 : decode cX0_init 33 = .ok (.iload_n 1, 1) := by decide +kernel
theorem dX0_init_34 : decode cX0_init 34 = .ok (.bipush 6, 2) := by decide +kernel
theorem dX0_init_36 : decode cX0_init 36 = .ok (.if_icmp .ge 22, 3) := by decide +kernel
theorem dX0_init_39 : decode cX0_init 39 = .ok (.aload_n 0, 1) := by decide +kernel
theorem dX0_init_40 : decode cX0_init 40 = .ok (.getfield 11, 3) := by decide +kernel
theorem dX0_init_43 : decode cX0_init 43 = .ok (.iload_n 1, 1) := by decide +kernel
theorem dX0_init_44 : decode cX0_init 44 = .ok (.new 9, 3) := by decide +kernel
theorem dX0_init_47 : decode cX0_init 47 = .ok (.dup, 1) := by decide +kernel
theorem dX0_init_48 : decode cX0_init 48 = .ok (.invokespecial 29, 3) := by decide +kernel
theorem dX0_init_51 : decode cX0_init 51 = .ok (.aastore, 1) := by decide +kernel
theorem dX0_init_52 : decode cX0_init 52 = .ok (.iinc 1 1, 3) := by decide +kernel
theorem dX0_init_55 : decode cX0_init 55 = .ok (.goto (-22), 3) := by decide +kernel
theorem dX0_init_58 : decode cX0_init 58 = .ok (.iconst 0, 1) := by decide +kernel
theorem dX0_init_59 : decode cX0_init 59 = .ok (.istore_n 1, 1) := by decide +kernel
theorem dX0_init_60 : decode cX0_init 60 = .ok (.iload_n 1, 1) := by decide +kernel
theorem dX0_init_61 : decode cX0_init 61 = .ok (.bipush 24, 2) := by decide +kernel
theorem dX0_init_63 : decode cX0_init 63 = .ok (.if_icmp .ge 22, 3) := by decide +kernel
theorem dX0_init_66 : decode cX0_init 66 = .ok (.aload_n 0, 1) := by decide +kernel
theorem dX0_init_67 : decode cX0_init 67 = .ok (.getfield 19, 3) := by decide +kernel
theorem dX0_init_70 : decode cX0_init 70 = .ok (.iload_n 1, 1) := by decide +kernel
theorem dX0_init_71 : decode cX0_init 71 = .ok (.new 17, 3) := by decide +kernel
theorem dX0_init_74 : decode cX0_init 74 = .ok (.dup, 1) := by decide +kernel
theorem dX0_init_75 : decode cX0_init 75 = .ok (.invokespecial 30, 3) := by decide +kernel
theorem dX0_init_78 : decode cX0_init 78 = .ok (.aastore, 1) := by decide +kernel
theorem dX0_init_79 : decode cX0_init 79 = .ok (.iinc 1 1, 3) := by decide +kernel
theorem dX0_init_82 : decode cX0_init 82 = .ok (.goto (-22), 3) := by decide +kernel
theorem dX0_init_85 : decode cX0_init 85 = .ok (.iconst 0, 1) := by decide +kernel
theorem dX0_init_86 : decode cX0_init 86 = .ok (.istore_n 1, 1) := by decide +kernel
theorem dX0_init_87 : decode cX0_init 87 = .ok (.iload_n 1, 1) := by decide +kernel
theorem dX0_init_88 : decode cX0_init 88 = .ok (.bipush 8, 2) := by decide +kernel
theorem dX0_init_90 : decode cX0_init 90 = .ok (.if_icmp .ge 22, 3) := by decide +kernel
theorem dX0_init_93 : decode cX0_init 93 = .ok (.aload_n 0, 1) := by decide +kernel
theorem dX0_init_94 : decode cX0_init 94 = .ok (.getfield 25, 3) := by decide +kernel
theorem dX0_init_97 : decode cX0_init 97 = .ok (.iload_n 1, 1) := by decide +kernel
theorem dX0_init_98 : decode cX0_init 98 = .ok (.new 23, 3) := by decide +kernel
theorem dX0_init_101 : decode cX0_init 101 = .ok (.dup, 1) := by decide +kernel
theorem dX0_init_102 : decode cX0_init 102 = .ok (.invokespecial 31, 3) := by decide +kernel
theorem dX0_init_105 : decode cX0_init 105 = .ok (.aastore, 1) := by decide +kernel
theorem dX0_init_106 : decode cX0_init 106 = .ok (.iinc 1 1, 3) := by decide +kernel
theorem dX0_init_109 : decode cX0_init 109 = .ok (.goto (-22), 3) := by decide +kernel
theorem dX0_init_112 : decode cX0_init 112 = .ok (.return_, 1) := by decide +kernel
set_option maxHeartbeats 4000000 in
set_option maxRecDepth 100000 in
theorem fX0_init (l : Launch) (dC : Nat → ClassId) (dI : Nat → Nat → Nat) (sz : Nat) (h0 : Nat) : Met l yX0_init (.code yX0_init cX0_init 2 none :: wsGA) ({ frames := 2, cells := 41, slots := 226, locals := 32 }) (va_Pc [.ref h0] (fun U => U.heap.size = sz ∧ va_P (dC, dI) vwCl [(h0, .inr (0, [.int 0, .int 0, .int 0, .int 0, .int 0, .int 0, .int 0, .int 0, .int 0, .int 0, .null, .null, .null]))] U.heap ∧ va_K (dC, dI) vwCl [] U ∧ va_D (fun _ => True) [(h0, .inr (0, [.int 0, .int 0, .int 0, .int 0, .int 0, .int 0, .int 0, .int 0, .int 0, .int 0, .null, .null, .null]))] ∧ nzA U)) (va_Qv (fun (u : Unit) => True) (fun _ t => ∃ (q1 : Nat) (q2 : Nat) (q3 : Nat), va_P (dC, dI) vwCl [(h0, .inr (0, [.int 0, .int 0, .int 0, .int 0, .int 0, .int 0, .int 0, .int 0, .int 0, .int 0, .ref q1, .ref q2, .ref q3]))] t.heap ∧ va_K (dC, dI) vwCl [] t ∧ va_D (va_A [(h0, .inr (0, [.int 0, .int 0, .int 0, .int 0, .int 0, .int 0, .int 0, .int 0, .int 0, .int 0, .null, .null, .null]))] sz) [(h0, .inr (0, [.int 0, .int 0, .int 0, .int 0, .int 0, .int 0, .int 0, .int 0, .int 0, .int 0, .ref q1, .ref q2, .ref q3]))]) (va_A [(h0, .inr (0, [.int 0, .int 0, .int 0, .int 0, .int 0, .int 0, .int 0, .int 0, .int 0, .int 0, .null, .null, .null]))] sz)) 41 226 (va_A [(h0, .inr (0, [.int 0, .int 0, .int 0, .int 0, .int 0, .int 0, .int 0, .int 0, .int 0, .int 0, .null, .null, .null]))] sz) := by
  refine Met.ofW (cc := cX0_init) (maxL := 2) (ret := none) (by decide) rfl ?_
  intro p e s m args below meth c s₁ B hml hv
  obtain ⟨rfl, hsz, hP, hK, hD0, hz⟩ := hv
  have hx := B.exec
  have hb := B.bytes
  have hr := B.returns
  have hts := atoms_spec (ws := (.code yX0_init cX0_init 2 none :: wsGA)) B.pre
  have hown : s.vm.findClass RX0 = some m.cls := findClass_of_methodNamed B.named
  have hlocks := B.notSynchronized
  have hin : meth.name = "<init>" := (name_of_methodNamed B.named B.method).1
  subst hsz
  have hD := hD0.self (sz := s.heap.size)
  generalize hAe : va_A [(h0, .inr (0, [.int 0, .int 0, .int 0, .int 0, .int 0, .int 0, .int 0, .int 0, .int 0, .int 0, .null, .null, .null]))] s.heap.size = A at hD ⊢
  have hA : ∀ q : Nat, s.heap.size ≤ q → A q := fun q h => by rw [← hAe]; exact Or.inr h
  have hS : va_S A s.heap s.heap [] := va_S.rf
  have hl := lv_entry ([.ref h0]) (n := 2) (Nat.le_of_ble_eq_true rfl)
  rw [lg_entry_eq]
  generalize (lg_sl ([.ref h0]) ++ List.replicate (2 - (lg_sl ([.ref h0])).length) Slot.unset).toArray = ls at hl ⊢
  have hl : lv_has ls 2 [(0, .ref h0)] := hl
  refine lv_aload_n hx hb dX0_init_0 rfl (lv_at hl 0 rfl) ?_
  refine W.objInit hx hb hown (hts _ (List.mem_cons_of_mem _ mGA_80)) (hts _ (List.mem_cons_of_mem _ mGA_43)) (hts _ (List.mem_cons_of_mem _ mGA_44)) rfl (by rw [hml]; exact hl.1) rfl dX0_init_1 (Nat.le_of_ble_eq_true rfl) (Nat.le_of_ble_eq_true rfl) ?_
  refine W.eq (g2 := F0 m 4 ls []) rfl ?_
  refine lv_aload_n hx hb dX0_init_4 rfl (lv_at hl 0 rfl) ?_
  refine lv_bipush (v := 6) hx hb dX0_init_5 (by decide) ?_
  refine va_newq (C := RX5) (N' := 6) hx hb hown (hts _ (List.mem_cons_of_mem _ mGA_81)) (nzA_ao_X5 hz) hK hP hD hS hA (by decide) (by decide) (Nat.le_of_ble_eq_true rfl) (Nat.le_of_ble_eq_true rfl) (Nat.le_of_ble_eq_true rfl) dX0_init_7 (fun q_1 k_2 H hK hP hD hS => ?_)
  have hP : va_P (dC, dI) vwCl [(h0, .inr (0, [.int 0, .int 0, .int 0, .int 0, .int 0, .int 0, .int 0, .int 0, .int 0, .int 0, .null, .null, .null])), (q_1, .inl (k_2, 6, .inr (.inr (.inr (.inr (fun _ => none))))))] H := hP
  have hD : va_D A [(h0, .inr (0, [.int 0, .int 0, .int 0, .int 0, .int 0, .int 0, .int 0, .int 0, .int 0, .int 0, .null, .null, .null])), (q_1, .inl (k_2, 6, .inr (.inr (.inr (.inr (fun _ => none))))))] := hD
  have hK : va_K (dC, dI) vwCl [(k_2, .object RX5)] s := hK
  refine W.widen (k := 1) (n := 6) (Nat.le_of_ble_eq_true rfl) (Nat.le_of_ble_eq_true rfl) ?_
  refine va_putF (D := (dC, dI)) (ci := 0) (v := .ref q_1) (ty := .array (.object "SightedMonths$Place")) (C := RX0) (T := TX0) (N := 13) hx hb hts (fun w h => List.mem_cons_of_mem _ (jnGA_X0 w h)) tyX0 tyX0_ok nmX0 hown hK hP hD hS 0 rfl rfl 10 (by decide) (hts _ (List.mem_cons_of_mem _ mGA_82)) (fun _ h9 => h9) rfl hin rfl (by decide +kernel) rfl rfl (Nat.le_of_ble_eq_true rfl) dX0_init_10 (fun H locs hP hD hS => ?_)
  have hP : va_P (dC, dI) vwCl [(h0, .inr (0, [.int 0, .int 0, .int 0, .int 0, .int 0, .int 0, .int 0, .int 0, .int 0, .int 0, .ref q_1, .null, .null])), (q_1, .inl (k_2, 6, .inr (.inr (.inr (.inr (fun _ => none))))))] H := hP
  have hD : va_D A [(h0, .inr (0, [.int 0, .int 0, .int 0, .int 0, .int 0, .int 0, .int 0, .int 0, .int 0, .int 0, .ref q_1, .null, .null])), (q_1, .inl (k_2, 6, .inr (.inr (.inr (.inr (fun _ => none))))))] := hD
  refine lv_aload_n hx hb dX0_init_13 rfl (lv_at hl 0 rfl) ?_
  refine lv_bipush (v := 24) hx hb dX0_init_14 (by decide) ?_
  refine va_newq (C := RX7) (N' := 24) hx hb hown (hts _ (List.mem_cons_of_mem _ mGA_83)) (nzA_ao_X7 hz) hK hP hD hS hA (by decide) (by decide) (Nat.le_of_ble_eq_true rfl) (Nat.le_of_ble_eq_true rfl) (Nat.le_of_ble_eq_true rfl) dX0_init_16 (fun q_3 k_4 H hK hP hD hS => ?_)
  have hP : va_P (dC, dI) vwCl [(h0, .inr (0, [.int 0, .int 0, .int 0, .int 0, .int 0, .int 0, .int 0, .int 0, .int 0, .int 0, .ref q_1, .null, .null])), (q_1, .inl (k_2, 6, .inr (.inr (.inr (.inr (fun _ => none)))))), (q_3, .inl (k_4, 24, .inr (.inr (.inr (.inr (fun _ => none))))))] H := hP
  have hD : va_D A [(h0, .inr (0, [.int 0, .int 0, .int 0, .int 0, .int 0, .int 0, .int 0, .int 0, .int 0, .int 0, .ref q_1, .null, .null])), (q_1, .inl (k_2, 6, .inr (.inr (.inr (.inr (fun _ => none)))))), (q_3, .inl (k_4, 24, .inr (.inr (.inr (.inr (fun _ => none))))))] := hD
  have hK : va_K (dC, dI) vwCl [(k_2, .object RX5), (k_4, .object RX7)] s := hK
  refine W.widen (k := 2) (n := 30) (Nat.le_of_ble_eq_true rfl) (Nat.le_of_ble_eq_true rfl) ?_
  refine va_putF (D := (dC, dI)) (ci := 0) (v := .ref q_3) (ty := .array (.object "SightedMonths$Report")) (C := RX0) (T := TX0) (N := 13) hx hb hts (fun w h => List.mem_cons_of_mem _ (jnGA_X0 w h)) tyX0 tyX0_ok nmX0 hown hK hP hD hS 0 rfl rfl 11 (by decide) (hts _ (List.mem_cons_of_mem _ mGA_84)) (fun _ h9 => h9) rfl hin rfl (by decide +kernel) rfl rfl (Nat.le_of_ble_eq_true rfl) dX0_init_19 (fun H locs hP hD hS => ?_)
  have hP : va_P (dC, dI) vwCl [(h0, .inr (0, [.int 0, .int 0, .int 0, .int 0, .int 0, .int 0, .int 0, .int 0, .int 0, .int 0, .ref q_1, .ref q_3, .null])), (q_1, .inl (k_2, 6, .inr (.inr (.inr (.inr (fun _ => none)))))), (q_3, .inl (k_4, 24, .inr (.inr (.inr (.inr (fun _ => none))))))] H := hP
  have hD : va_D A [(h0, .inr (0, [.int 0, .int 0, .int 0, .int 0, .int 0, .int 0, .int 0, .int 0, .int 0, .int 0, .ref q_1, .ref q_3, .null])), (q_1, .inl (k_2, 6, .inr (.inr (.inr (.inr (fun _ => none)))))), (q_3, .inl (k_4, 24, .inr (.inr (.inr (.inr (fun _ => none))))))] := hD
  refine lv_aload_n hx hb dX0_init_22 rfl (lv_at hl 0 rfl) ?_
  refine lv_bipush (v := 8) hx hb dX0_init_23 (by decide) ?_
  refine va_newq (C := RX2) (N' := 8) hx hb hown (hts _ (List.mem_cons_of_mem _ mGA_85)) (nzA_ao_X2 hz) hK hP hD hS hA (by decide) (by decide) (Nat.le_of_ble_eq_true rfl) (Nat.le_of_ble_eq_true rfl) (Nat.le_of_ble_eq_true rfl) dX0_init_25 (fun q_5 k_6 H hK hP hD hS => ?_)
  have hP : va_P (dC, dI) vwCl [(h0, .inr (0, [.int 0, .int 0, .int 0, .int 0, .int 0, .int 0, .int 0, .int 0, .int 0, .int 0, .ref q_1, .ref q_3, .null])), (q_1, .inl (k_2, 6, .inr (.inr (.inr (.inr (fun _ => none)))))), (q_3, .inl (k_4, 24, .inr (.inr (.inr (.inr (fun _ => none)))))), (q_5, .inl (k_6, 8, .inr (.inr (.inr (.inr (fun _ => none))))))] H := hP
  have hD : va_D A [(h0, .inr (0, [.int 0, .int 0, .int 0, .int 0, .int 0, .int 0, .int 0, .int 0, .int 0, .int 0, .ref q_1, .ref q_3, .null])), (q_1, .inl (k_2, 6, .inr (.inr (.inr (.inr (fun _ => none)))))), (q_3, .inl (k_4, 24, .inr (.inr (.inr (.inr (fun _ => none)))))), (q_5, .inl (k_6, 8, .inr (.inr (.inr (.inr (fun _ => none))))))] := hD
  have hK : va_K (dC, dI) vwCl [(k_2, .object RX5), (k_4, .object RX7), (k_6, .object RX2)] s := hK
  refine W.widen (k := 3) (n := 38) (Nat.le_of_ble_eq_true rfl) (Nat.le_of_ble_eq_true rfl) ?_
  refine va_putF (D := (dC, dI)) (ci := 0) (v := .ref q_5) (ty := .array (.object "SightedMonths$Deed")) (C := RX0) (T := TX0) (N := 13) hx hb hts (fun w h => List.mem_cons_of_mem _ (jnGA_X0 w h)) tyX0 tyX0_ok nmX0 hown hK hP hD hS 0 rfl rfl 12 (by decide) (hts _ (List.mem_cons_of_mem _ mGA_86)) (fun _ h9 => h9) rfl hin rfl (by decide +kernel) rfl rfl (Nat.le_of_ble_eq_true rfl) dX0_init_28 (fun H locs hP hD hS => ?_)
  have hP : va_P (dC, dI) vwCl [(h0, .inr (0, [.int 0, .int 0, .int 0, .int 0, .int 0, .int 0, .int 0, .int 0, .int 0, .int 0, .ref q_1, .ref q_3, .ref q_5])), (q_1, .inl (k_2, 6, .inr (.inr (.inr (.inr (fun _ => none)))))), (q_3, .inl (k_4, 24, .inr (.inr (.inr (.inr (fun _ => none)))))), (q_5, .inl (k_6, 8, .inr (.inr (.inr (.inr (fun _ => none))))))] H := hP
  have hD : va_D A [(h0, .inr (0, [.int 0, .int 0, .int 0, .int 0, .int 0, .int 0, .int 0, .int 0, .int 0, .int 0, .ref q_1, .ref q_3, .ref q_5])), (q_1, .inl (k_2, 6, .inr (.inr (.inr (.inr (fun _ => none)))))), (q_3, .inl (k_4, 24, .inr (.inr (.inr (.inr (fun _ => none)))))), (q_5, .inl (k_6, 8, .inr (.inr (.inr (.inr (fun _ => none))))))] := hD
  refine lv_iconst (v := 0) hx hb dX0_init_31 (by decide) ?_
  refine lv_istore_n (lv' := [(1, .int 0), (0, .ref h0)]) hx hb dX0_init_32 rfl hl (by decide) rfl (fun ls hl => ?_)
  refine lv_iload_n hx hb dX0_init_33 rfl (lv_at hl 0 rfl) ?_
  refine lv_bipush (v := 6) hx hb dX0_init_34 (by decide) ?_
  refine lv_icmp_ge (tgt := 58) hx hb dX0_init_36 (by decide) (fun c_7 => absurd c_7 (by decide)) (fun c_7 => ?_)
  refine lv_aload_n hx hb dX0_init_39 rfl (lv_at hl 1 rfl) ?_
  refine va_get (D := (dC, dI)) (ci := 0) (v := .ref q_1) (C := RX0) (T := TX0) (N := 13) hx hb hts (fun w h => List.mem_cons_of_mem _ (jnGA_X0 w h)) hown hK hP 0 rfl rfl 10 (by decide) (hts _ (List.mem_cons_of_mem _ mGA_82)) (fun _ h9 => h9) rfl dX0_init_40 ?_
  refine lv_iload_n hx hb dX0_init_43 rfl (lv_at hl 0 rfl) ?_
  refine va_new (ci := 5) (fs := [.int 0, .int 0]) (C := RX5) (T := TX5) (N := 2) hx hb hts (fun w h => List.mem_cons_of_mem _ (jnGA_X5 w h)) tyX5 tyX5_ok hown (hts _ (List.mem_cons_of_mem _ mGA_81)) (hts _ (List.mem_cons_of_mem _ mGA_87)) (hts _ (List.mem_cons_of_mem _ mGA_88)) hK hP hD hS hA rfl dfX5 (Nat.le_of_ble_eq_true rfl) (Nat.le_of_ble_eq_true rfl) dX0_init_44 (fun q_8 H hP hD hS => ?_)
  have hP : va_P (dC, dI) vwCl [(h0, .inr (0, [.int 0, .int 0, .int 0, .int 0, .int 0, .int 0, .int 0, .int 0, .int 0, .int 0, .ref q_1, .ref q_3, .ref q_5])), (q_1, .inl (k_2, 6, .inr (.inr (.inr (.inr (fun _ => none)))))), (q_3, .inl (k_4, 24, .inr (.inr (.inr (.inr (fun _ => none)))))), (q_5, .inl (k_6, 8, .inr (.inr (.inr (.inr (fun _ => none)))))), (q_8, .inr (5, [.int 0, .int 0]))] H := hP
  have hD : va_D A [(h0, .inr (0, [.int 0, .int 0, .int 0, .int 0, .int 0, .int 0, .int 0, .int 0, .int 0, .int 0, .ref q_1, .ref q_3, .ref q_5])), (q_1, .inl (k_2, 6, .inr (.inr (.inr (.inr (fun _ => none)))))), (q_3, .inl (k_4, 24, .inr (.inr (.inr (.inr (fun _ => none)))))), (q_5, .inl (k_6, 8, .inr (.inr (.inr (.inr (fun _ => none)))))), (q_8, .inr (5, [.int 0, .int 0]))] := hD
  refine W.widen (k := 4) (n := 40) (Nat.le_of_ble_eq_true rfl) (Nat.le_of_ble_eq_true rfl) ?_
  refine lv_dup hx hb dX0_init_47 rfl ?_
  have hPc := hP.sub (ws' := []) [] rfl
  have hKc := hK.sub (tys' := []) [] rfl
  refine va_callv (va_runIN (As := []) (rest := [.ref q_8, .int 0, .ref q_1]) ⟨hx, hb, hml, hown, hts⟩ (fX5_init l dC dI q_8) (⟨va_cnB 0 hts (gz_gP mGA_89 goodGA) rfl rfl rfl (nzA_X0_29 hz) (hts _ (List.mem_cons_of_mem _ mGA_88)) (by decide +kernel) ⟨Nat.le_of_ble_eq_true rfl, Nat.le_of_ble_eq_true rfl⟩, rfl, (hts _ (List.mem_cons_of_mem _ mGA_90))⟩) ⟨fun a U g mk q => by obtain ⟨q0, qP, qK⟩ := q; exact ⟨q0, qP, va_K.moved (u := U) (U := U.calling g mk a) (Vm.Alike.refl U.vm) qK⟩, fun U hU hW => ⟨rfl, by rw [hU]; exact hPc, va_K.moved hW.alike hKc⟩⟩ rfl rfl hl.1 rfl (lv_room (Nat.le_of_ble_eq_true rfl)) dX0_init_48 ⟨Nat.le_of_ble_eq_true rfl, Nat.le_of_ble_eq_true rfl⟩) hS (fun q _ h => h.elim) (fun q h => h.elim) (fun  u t H1 locs ht hvm hw hB hz1 hk1 hS => ?_)
  have hP := gz_keep hP hk1
  generalize H1 = H at hP hS ⊢
  refine va_astq hx hb hK hP hD hS 1 0 4 5 rfl rfl rfl rfl (by unfold vp_in; decide) dX0_init_51 (fun H locs hP hD hS => ?_)
  have hP : va_P (dC, dI) vwCl [(h0, .inr (0, [.int 0, .int 0, .int 0, .int 0, .int 0, .int 0, .int 0, .int 0, .int 0, .int 0, .ref q_1, .ref q_3, .ref q_5])), (q_1, .inl (k_2, 6, .inr (.inr (.inr (.inr (va_up (fun _ => none) (0 : Int32).toNatClampNeg (some q_8))))))), (q_3, .inl (k_4, 24, .inr (.inr (.inr (.inr (fun _ => none)))))), (q_5, .inl (k_6, 8, .inr (.inr (.inr (.inr (fun _ => none)))))), (q_8, .inr (5, [.int 0, .int 0]))] H := hP
  have hD : va_D A [(h0, .inr (0, [.int 0, .int 0, .int 0, .int 0, .int 0, .int 0, .int 0, .int 0, .int 0, .int 0, .ref q_1, .ref q_3, .ref q_5])), (q_1, .inl (k_2, 6, .inr (.inr (.inr (.inr (va_up (fun _ => none) (0 : Int32).toNatClampNeg (some q_8))))))), (q_3, .inl (k_4, 24, .inr (.inr (.inr (.inr (fun _ => none)))))), (q_5, .inl (k_6, 8, .inr (.inr (.inr (.inr (fun _ => none)))))), (q_8, .inr (5, [.int 0, .int 0]))] := hD
  generalize va_up (fun _ => none) (0 : Int32).toNatClampNeg (some q_8) = f_10 at hP hD
  have hP := hP.sub (ws' := [(h0, .inr (0, [.int 0, .int 0, .int 0, .int 0, .int 0, .int 0, .int 0, .int 0, .int 0, .int 0, .ref q_1, .ref q_3, .ref q_5])), (q_1, .inl (k_2, 6, .inr (.inr (.inr (.inr f_10))))), (q_3, .inl (k_4, 24, .inr (.inr (.inr (.inr (fun _ => none)))))), (q_5, .inl (k_6, 8, .inr (.inr (.inr (.inr (fun _ => none))))))]) [0, 1, 2, 3] rfl
  have hD := hD.sub (ws' := [(h0, .inr (0, [.int 0, .int 0, .int 0, .int 0, .int 0, .int 0, .int 0, .int 0, .int 0, .int 0, .ref q_1, .ref q_3, .ref q_5])), (q_1, .inl (k_2, 6, .inr (.inr (.inr (.inr f_10))))), (q_3, .inl (k_4, 24, .inr (.inr (.inr (.inr (fun _ => none)))))), (q_5, .inl (k_6, 8, .inr (.inr (.inr (.inr (fun _ => none))))))]) [0, 1, 2, 3] (by decide) rfl
  refine lv_iinc (v := 1) (lv' := [(1, .int 1), (0, .ref h0)]) hx hb dX0_init_52 hl (k := 0) rfl (by decide) (by decide) rfl (fun ls hl => ?_)
  refine lv_goto (tgt := 33) hx hb dX0_init_55 (by decide) ?_
  refine lv_iload_n hx hb dX0_init_33 rfl (lv_at hl 0 rfl) ?_
  refine lv_bipush (v := 6) hx hb dX0_init_34 (by decide) ?_
  refine lv_icmp_ge (tgt := 58) hx hb dX0_init_36 (by decide) (fun c_11 => absurd c_11 (by decide)) (fun c_11 => ?_)
  refine lv_aload_n hx hb dX0_init_39 rfl (lv_at hl 1 rfl) ?_
  refine va_get (D := (dC, dI)) (ci := 0) (v := .ref q_1) (C := RX0) (T := TX0) (N := 13) hx hb hts (fun w h => List.mem_cons_of_mem _ (jnGA_X0 w h)) hown hK hP 0 rfl rfl 10 (by decide) (hts _ (List.mem_cons_of_mem _ mGA_82)) (fun _ h9 => h9) rfl dX0_init_40 ?_
  refine lv_iload_n hx hb dX0_init_43 rfl (lv_at hl 0 rfl) ?_
  refine va_new (ci := 5) (fs := [.int 0, .int 0]) (C := RX5) (T := TX5) (N := 2) hx hb hts (fun w h => List.mem_cons_of_mem _ (jnGA_X5 w h)) tyX5 tyX5_ok hown (hts _ (List.mem_cons_of_mem _ mGA_81)) (hts _ (List.mem_cons_of_mem _ mGA_87)) (hts _ (List.mem_cons_of_mem _ mGA_88)) hK hP hD hS hA rfl dfX5 (Nat.le_of_ble_eq_true rfl) (Nat.le_of_ble_eq_true rfl) dX0_init_44 (fun q_12 H hP hD hS => ?_)
  have hP : va_P (dC, dI) vwCl [(h0, .inr (0, [.int 0, .int 0, .int 0, .int 0, .int 0, .int 0, .int 0, .int 0, .int 0, .int 0, .ref q_1, .ref q_3, .ref q_5])), (q_1, .inl (k_2, 6, .inr (.inr (.inr (.inr f_10))))), (q_3, .inl (k_4, 24, .inr (.inr (.inr (.inr (fun _ => none)))))), (q_5, .inl (k_6, 8, .inr (.inr (.inr (.inr (fun _ => none)))))), (q_12, .inr (5, [.int 0, .int 0]))] H := hP
  have hD : va_D A [(h0, .inr (0, [.int 0, .int 0, .int 0, .int 0, .int 0, .int 0, .int 0, .int 0, .int 0, .int 0, .ref q_1, .ref q_3, .ref q_5])), (q_1, .inl (k_2, 6, .inr (.inr (.inr (.inr f_10))))), (q_3, .inl (k_4, 24, .inr (.inr (.inr (.inr (fun _ => none)))))), (q_5, .inl (k_6, 8, .inr (.inr (.inr (.inr (fun _ => none)))))), (q_12, .inr (5, [.int 0, .int 0]))] := hD
  refine W.widen (k := 5) (n := 42) (Nat.le_of_ble_eq_true rfl) (Nat.le_of_ble_eq_true rfl) ?_
  refine lv_dup hx hb dX0_init_47 rfl ?_
  have hPc := hP.sub (ws' := []) [] rfl
  have hKc := hK.sub (tys' := []) [] rfl
  refine va_callv (va_runIN (As := []) (rest := [.ref q_12, .int 1, .ref q_1]) ⟨hx, hb, hml, hown, hts⟩ (fX5_init l dC dI q_12) (⟨va_cnB 0 hts (gz_gP mGA_89 goodGA) rfl rfl rfl (nzA_X0_29 hz) (hts _ (List.mem_cons_of_mem _ mGA_88)) (by decide +kernel) ⟨Nat.le_of_ble_eq_true rfl, Nat.le_of_ble_eq_true rfl⟩, rfl, (hts _ (List.mem_cons_of_mem _ mGA_90))⟩) ⟨fun a U g mk q => by obtain ⟨q0, qP, qK⟩ := q; exact ⟨q0, qP, va_K.moved (u := U) (U := U.calling g mk a) (Vm.Alike.refl U.vm) qK⟩, fun U hU hW => ⟨rfl, by rw [hU]; exact hPc, va_K.moved hW.alike hKc⟩⟩ rfl rfl hl.1 rfl (lv_room (Nat.le_of_ble_eq_true rfl)) dX0_init_48 ⟨Nat.le_of_ble_eq_true rfl, Nat.le_of_ble_eq_true rfl⟩) hS (fun q _ h => h.elim) (fun q h => h.elim) (fun  u t H1 locs ht hvm hw hB hz1 hk1 hS => ?_)
  have hP := gz_keep hP hk1
  generalize H1 = H at hP hS ⊢
  refine va_astq hx hb hK hP hD hS 1 0 4 5 rfl rfl rfl rfl (by unfold vp_in; decide) dX0_init_51 (fun H locs hP hD hS => ?_)
  have hP : va_P (dC, dI) vwCl [(h0, .inr (0, [.int 0, .int 0, .int 0, .int 0, .int 0, .int 0, .int 0, .int 0, .int 0, .int 0, .ref q_1, .ref q_3, .ref q_5])), (q_1, .inl (k_2, 6, .inr (.inr (.inr (.inr (va_up f_10 (1 : Int32).toNatClampNeg (some q_12))))))), (q_3, .inl (k_4, 24, .inr (.inr (.inr (.inr (fun _ => none)))))), (q_5, .inl (k_6, 8, .inr (.inr (.inr (.inr (fun _ => none)))))), (q_12, .inr (5, [.int 0, .int 0]))] H := hP
  have hD : va_D A [(h0, .inr (0, [.int 0, .int 0, .int 0, .int 0, .int 0, .int 0, .int 0, .int 0, .int 0, .int 0, .ref q_1, .ref q_3, .ref q_5])), (q_1, .inl (k_2, 6, .inr (.inr (.inr (.inr (va_up f_10 (1 : Int32).toNatClampNeg (some q_12))))))), (q_3, .inl (k_4, 24, .inr (.inr (.inr (.inr (fun _ => none)))))), (q_5, .inl (k_6, 8, .inr (.inr (.inr (.inr (fun _ => none)))))), (q_12, .inr (5, [.int 0, .int 0]))] := hD
  generalize va_up f_10 (1 : Int32).toNatClampNeg (some q_12) = f_14 at hP hD
  have hP := hP.sub (ws' := [(h0, .inr (0, [.int 0, .int 0, .int 0, .int 0, .int 0, .int 0, .int 0, .int 0, .int 0, .int 0, .ref q_1, .ref q_3, .ref q_5])), (q_1, .inl (k_2, 6, .inr (.inr (.inr (.inr f_14))))), (q_3, .inl (k_4, 24, .inr (.inr (.inr (.inr (fun _ => none)))))), (q_5, .inl (k_6, 8, .inr (.inr (.inr (.inr (fun _ => none))))))]) [0, 1, 2, 3] rfl
  have hD := hD.sub (ws' := [(h0, .inr (0, [.int 0, .int 0, .int 0, .int 0, .int 0, .int 0, .int 0, .int 0, .int 0, .int 0, .ref q_1, .ref q_3, .ref q_5])), (q_1, .inl (k_2, 6, .inr (.inr (.inr (.inr f_14))))), (q_3, .inl (k_4, 24, .inr (.inr (.inr (.inr (fun _ => none)))))), (q_5, .inl (k_6, 8, .inr (.inr (.inr (.inr (fun _ => none))))))]) [0, 1, 2, 3] (by decide) rfl
  refine lv_iinc (v := 2) (lv' := [(1, .int 2), (0, .ref h0)]) hx hb dX0_init_52 hl (k := 0) rfl (by decide) (by decide) rfl (fun ls hl => ?_)
  refine lv_goto (tgt := 33) hx hb dX0_init_55 (by decide) ?_
  refine lv_iload_n hx hb dX0_init_33 rfl (lv_at hl 0 rfl) ?_
  refine lv_bipush (v := 6) hx hb dX0_init_34 (by decide) ?_
  refine lv_icmp_ge (tgt := 58) hx hb dX0_init_36 (by decide) (fun c_15 => absurd c_15 (by decide)) (fun c_15 => ?_)
  refine lv_aload_n hx hb dX0_init_39 rfl (lv_at hl 1 rfl) ?_
  refine va_get (D := (dC, dI)) (ci := 0) (v := .ref q_1) (C := RX0) (T := TX0) (N := 13) hx hb hts (fun w h => List.mem_cons_of_mem _ (jnGA_X0 w h)) hown hK hP 0 rfl rfl 10 (by decide) (hts _ (List.mem_cons_of_mem _ mGA_82)) (fun _ h9 => h9) rfl dX0_init_40 ?_
  refine lv_iload_n hx hb dX0_init_43 rfl (lv_at hl 0 rfl) ?_
  refine va_new (ci := 5) (fs := [.int 0, .int 0]) (C := RX5) (T := TX5) (N := 2) hx hb hts (fun w h => List.mem_cons_of_mem _ (jnGA_X5 w h)) tyX5 tyX5_ok hown (hts _ (List.mem_cons_of_mem _ mGA_81)) (hts _ (List.mem_cons_of_mem _ mGA_87)) (hts _ (List.mem_cons_of_mem _ mGA_88)) hK hP hD hS hA rfl dfX5 (Nat.le_of_ble_eq_true rfl) (Nat.le_of_ble_eq_true rfl) dX0_init_44 (fun q_16 H hP hD hS => ?_)
  have hP : va_P (dC, dI) vwCl [(h0, .inr (0, [.int 0, .int 0, .int 0, .int 0, .int 0, .int 0, .int 0, .int 0, .int 0, .int 0, .ref q_1, .ref q_3, .ref q_5])), (q_1, .inl (k_2, 6, .inr (.inr (.inr (.inr f_14))))), (q_3, .inl (k_4, 24, .inr (.inr (.inr (.inr (fun _ => none)))))), (q_5, .inl (k_6, 8, .inr (.inr (.inr (.inr (fun _ => none)))))), (q_16, .inr (5, [.int 0, .int 0]))] H := hP
  have hD : va_D A [(h0, .inr (0, [.int 0, .int 0, .int 0, .int 0, .int 0, .int 0, .int 0, .int 0, .int 0, .int 0, .ref q_1, .ref q_3, .ref q_5])), (q_1, .inl (k_2, 6, .inr (.inr (.inr (.inr f_14))))), (q_3, .inl (k_4, 24, .inr (.inr (.inr (.inr (fun _ => none)))))), (q_5, .inl (k_6, 8, .inr (.inr (.inr (.inr (fun _ => none)))))), (q_16, .inr (5, [.int 0, .int 0]))] := hD
  refine W.widen (k := 6) (n := 44) (Nat.le_of_ble_eq_true rfl) (Nat.le_of_ble_eq_true rfl) ?_
  refine lv_dup hx hb dX0_init_47 rfl ?_
  have hPc := hP.sub (ws' := []) [] rfl
  have hKc := hK.sub (tys' := []) [] rfl
  refine va_callv (va_runIN (As := []) (rest := [.ref q_16, .int 2, .ref q_1]) ⟨hx, hb, hml, hown, hts⟩ (fX5_init l dC dI q_16) (⟨va_cnB 0 hts (gz_gP mGA_89 goodGA) rfl rfl rfl (nzA_X0_29 hz) (hts _ (List.mem_cons_of_mem _ mGA_88)) (by decide +kernel) ⟨Nat.le_of_ble_eq_true rfl, Nat.le_of_ble_eq_true rfl⟩, rfl, (hts _ (List.mem_cons_of_mem _ mGA_90))⟩) ⟨fun a U g mk q => by obtain ⟨q0, qP, qK⟩ := q; exact ⟨q0, qP, va_K.moved (u := U) (U := U.calling g mk a) (Vm.Alike.refl U.vm) qK⟩, fun U hU hW => ⟨rfl, by rw [hU]; exact hPc, va_K.moved hW.alike hKc⟩⟩ rfl rfl hl.1 rfl (lv_room (Nat.le_of_ble_eq_true rfl)) dX0_init_48 ⟨Nat.le_of_ble_eq_true rfl, Nat.le_of_ble_eq_true rfl⟩) hS (fun q _ h => h.elim) (fun q h => h.elim) (fun  u t H1 locs ht hvm hw hB hz1 hk1 hS => ?_)
  have hP := gz_keep hP hk1
  generalize H1 = H at hP hS ⊢
  refine va_astq hx hb hK hP hD hS 1 0 4 5 rfl rfl rfl rfl (by unfold vp_in; decide) dX0_init_51 (fun H locs hP hD hS => ?_)
  have hP : va_P (dC, dI) vwCl [(h0, .inr (0, [.int 0, .int 0, .int 0, .int 0, .int 0, .int 0, .int 0, .int 0, .int 0, .int 0, .ref q_1, .ref q_3, .ref q_5])), (q_1, .inl (k_2, 6, .inr (.inr (.inr (.inr (va_up f_14 (2 : Int32).toNatClampNeg (some q_16))))))), (q_3, .inl (k_4, 24, .inr (.inr (.inr (.inr (fun _ => none)))))), (q_5, .inl (k_6, 8, .inr (.inr (.inr (.inr (fun _ => none)))))), (q_16, .inr (5, [.int 0, .int 0]))] H := hP
  have hD : va_D A [(h0, .inr (0, [.int 0, .int 0, .int 0, .int 0, .int 0, .int 0, .int 0, .int 0, .int 0, .int 0, .ref q_1, .ref q_3, .ref q_5])), (q_1, .inl (k_2, 6, .inr (.inr (.inr (.inr (va_up f_14 (2 : Int32).toNatClampNeg (some q_16))))))), (q_3, .inl (k_4, 24, .inr (.inr (.inr (.inr (fun _ => none)))))), (q_5, .inl (k_6, 8, .inr (.inr (.inr (.inr (fun _ => none)))))), (q_16, .inr (5, [.int 0, .int 0]))] := hD
  generalize va_up f_14 (2 : Int32).toNatClampNeg (some q_16) = f_18 at hP hD
  have hP := hP.sub (ws' := [(h0, .inr (0, [.int 0, .int 0, .int 0, .int 0, .int 0, .int 0, .int 0, .int 0, .int 0, .int 0, .ref q_1, .ref q_3, .ref q_5])), (q_1, .inl (k_2, 6, .inr (.inr (.inr (.inr f_18))))), (q_3, .inl (k_4, 24, .inr (.inr (.inr (.inr (fun _ => none)))))), (q_5, .inl (k_6, 8, .inr (.inr (.inr (.inr (fun _ => none))))))]) [0, 1, 2, 3] rfl
  have hD := hD.sub (ws' := [(h0, .inr (0, [.int 0, .int 0, .int 0, .int 0, .int 0, .int 0, .int 0, .int 0, .int 0, .int 0, .ref q_1, .ref q_3, .ref q_5])), (q_1, .inl (k_2, 6, .inr (.inr (.inr (.inr f_18))))), (q_3, .inl (k_4, 24, .inr (.inr (.inr (.inr (fun _ => none)))))), (q_5, .inl (k_6, 8, .inr (.inr (.inr (.inr (fun _ => none))))))]) [0, 1, 2, 3] (by decide) rfl
  refine lv_iinc (v := 3) (lv' := [(1, .int 3), (0, .ref h0)]) hx hb dX0_init_52 hl (k := 0) rfl (by decide) (by decide) rfl (fun ls hl => ?_)
  refine lv_goto (tgt := 33) hx hb dX0_init_55 (by decide) ?_
  refine lv_iload_n hx hb dX0_init_33 rfl (lv_at hl 0 rfl) ?_
  refine lv_bipush (v := 6) hx hb dX0_init_34 (by decide) ?_
  refine lv_icmp_ge (tgt := 58) hx hb dX0_init_36 (by decide) (fun c_19 => absurd c_19 (by decide)) (fun c_19 => ?_)
  refine lv_aload_n hx hb dX0_init_39 rfl (lv_at hl 1 rfl) ?_
  refine va_get (D := (dC, dI)) (ci := 0) (v := .ref q_1) (C := RX0) (T := TX0) (N := 13) hx hb hts (fun w h => List.mem_cons_of_mem _ (jnGA_X0 w h)) hown hK hP 0 rfl rfl 10 (by decide) (hts _ (List.mem_cons_of_mem _ mGA_82)) (fun _ h9 => h9) rfl dX0_init_40 ?_
  refine lv_iload_n hx hb dX0_init_43 rfl (lv_at hl 0 rfl) ?_
  refine va_new (ci := 5) (fs := [.int 0, .int 0]) (C := RX5) (T := TX5) (N := 2) hx hb hts (fun w h => List.mem_cons_of_mem _ (jnGA_X5 w h)) tyX5 tyX5_ok hown (hts _ (List.mem_cons_of_mem _ mGA_81)) (hts _ (List.mem_cons_of_mem _ mGA_87)) (hts _ (List.mem_cons_of_mem _ mGA_88)) hK hP hD hS hA rfl dfX5 (Nat.le_of_ble_eq_true rfl) (Nat.le_of_ble_eq_true rfl) dX0_init_44 (fun q_20 H hP hD hS => ?_)
  have hP : va_P (dC, dI) vwCl [(h0, .inr (0, [.int 0, .int 0, .int 0, .int 0, .int 0, .int 0, .int 0, .int 0, .int 0, .int 0, .ref q_1, .ref q_3, .ref q_5])), (q_1, .inl (k_2, 6, .inr (.inr (.inr (.inr f_18))))), (q_3, .inl (k_4, 24, .inr (.inr (.inr (.inr (fun _ => none)))))), (q_5, .inl (k_6, 8, .inr (.inr (.inr (.inr (fun _ => none)))))), (q_20, .inr (5, [.int 0, .int 0]))] H := hP
  have hD : va_D A [(h0, .inr (0, [.int 0, .int 0, .int 0, .int 0, .int 0, .int 0, .int 0, .int 0, .int 0, .int 0, .ref q_1, .ref q_3, .ref q_5])), (q_1, .inl (k_2, 6, .inr (.inr (.inr (.inr f_18))))), (q_3, .inl (k_4, 24, .inr (.inr (.inr (.inr (fun _ => none)))))), (q_5, .inl (k_6, 8, .inr (.inr (.inr (.inr (fun _ => none)))))), (q_20, .inr (5, [.int 0, .int 0]))] := hD
  refine W.widen (k := 7) (n := 46) (Nat.le_of_ble_eq_true rfl) (Nat.le_of_ble_eq_true rfl) ?_
  refine lv_dup hx hb dX0_init_47 rfl ?_
  have hPc := hP.sub (ws' := []) [] rfl
  have hKc := hK.sub (tys' := []) [] rfl
  refine va_callv (va_runIN (As := []) (rest := [.ref q_20, .int 3, .ref q_1]) ⟨hx, hb, hml, hown, hts⟩ (fX5_init l dC dI q_20) (⟨va_cnB 0 hts (gz_gP mGA_89 goodGA) rfl rfl rfl (nzA_X0_29 hz) (hts _ (List.mem_cons_of_mem _ mGA_88)) (by decide +kernel) ⟨Nat.le_of_ble_eq_true rfl, Nat.le_of_ble_eq_true rfl⟩, rfl, (hts _ (List.mem_cons_of_mem _ mGA_90))⟩) ⟨fun a U g mk q => by obtain ⟨q0, qP, qK⟩ := q; exact ⟨q0, qP, va_K.moved (u := U) (U := U.calling g mk a) (Vm.Alike.refl U.vm) qK⟩, fun U hU hW => ⟨rfl, by rw [hU]; exact hPc, va_K.moved hW.alike hKc⟩⟩ rfl rfl hl.1 rfl (lv_room (Nat.le_of_ble_eq_true rfl)) dX0_init_48 ⟨Nat.le_of_ble_eq_true rfl, Nat.le_of_ble_eq_true rfl⟩) hS (fun q _ h => h.elim) (fun q h => h.elim) (fun  u t H1 locs ht hvm hw hB hz1 hk1 hS => ?_)
  have hP := gz_keep hP hk1
  generalize H1 = H at hP hS ⊢
  refine va_astq hx hb hK hP hD hS 1 0 4 5 rfl rfl rfl rfl (by unfold vp_in; decide) dX0_init_51 (fun H locs hP hD hS => ?_)
  have hP : va_P (dC, dI) vwCl [(h0, .inr (0, [.int 0, .int 0, .int 0, .int 0, .int 0, .int 0, .int 0, .int 0, .int 0, .int 0, .ref q_1, .ref q_3, .ref q_5])), (q_1, .inl (k_2, 6, .inr (.inr (.inr (.inr (va_up f_18 (3 : Int32).toNatClampNeg (some q_20))))))), (q_3, .inl (k_4, 24, .inr (.inr (.inr (.inr (fun _ => none)))))), (q_5, .inl (k_6, 8, .inr (.inr (.inr (.inr (fun _ => none)))))), (q_20, .inr (5, [.int 0, .int 0]))] H := hP
  have hD : va_D A [(h0, .inr (0, [.int 0, .int 0, .int 0, .int 0, .int 0, .int 0, .int 0, .int 0, .int 0, .int 0, .ref q_1, .ref q_3, .ref q_5])), (q_1, .inl (k_2, 6, .inr (.inr (.inr (.inr (va_up f_18 (3 : Int32).toNatClampNeg (some q_20))))))), (q_3, .inl (k_4, 24, .inr (.inr (.inr (.inr (fun _ => none)))))), (q_5, .inl (k_6, 8, .inr (.inr (.inr (.inr (fun _ => none)))))), (q_20, .inr (5, [.int 0, .int 0]))] := hD
  generalize va_up f_18 (3 : Int32).toNatClampNeg (some q_20) = f_22 at hP hD
  have hP := hP.sub (ws' := [(h0, .inr (0, [.int 0, .int 0, .int 0, .int 0, .int 0, .int 0, .int 0, .int 0, .int 0, .int 0, .ref q_1, .ref q_3, .ref q_5])), (q_1, .inl (k_2, 6, .inr (.inr (.inr (.inr f_22))))), (q_3, .inl (k_4, 24, .inr (.inr (.inr (.inr (fun _ => none)))))), (q_5, .inl (k_6, 8, .inr (.inr (.inr (.inr (fun _ => none))))))]) [0, 1, 2, 3] rfl
  have hD := hD.sub (ws' := [(h0, .inr (0, [.int 0, .int 0, .int 0, .int 0, .int 0, .int 0, .int 0, .int 0, .int 0, .int 0, .ref q_1, .ref q_3, .ref q_5])), (q_1, .inl (k_2, 6, .inr (.inr (.inr (.inr f_22))))), (q_3, .inl (k_4, 24, .inr (.inr (.inr (.inr (fun _ => none)))))), (q_5, .inl (k_6, 8, .inr (.inr (.inr (.inr (fun _ => none))))))]) [0, 1, 2, 3] (by decide) rfl
  refine lv_iinc (v := 4) (lv' := [(1, .int 4), (0, .ref h0)]) hx hb dX0_init_52 hl (k := 0) rfl (by decide) (by decide) rfl (fun ls hl => ?_)
  refine lv_goto (tgt := 33) hx hb dX0_init_55 (by decide) ?_
  refine lv_iload_n hx hb dX0_init_33 rfl (lv_at hl 0 rfl) ?_
  refine lv_bipush (v := 6) hx hb dX0_init_34 (by decide) ?_
  refine lv_icmp_ge (tgt := 58) hx hb dX0_init_36 (by decide) (fun c_23 => absurd c_23 (by decide)) (fun c_23 => ?_)
  refine lv_aload_n hx hb dX0_init_39 rfl (lv_at hl 1 rfl) ?_
  refine va_get (D := (dC, dI)) (ci := 0) (v := .ref q_1) (C := RX0) (T := TX0) (N := 13) hx hb hts (fun w h => List.mem_cons_of_mem _ (jnGA_X0 w h)) hown hK hP 0 rfl rfl 10 (by decide) (hts _ (List.mem_cons_of_mem _ mGA_82)) (fun _ h9 => h9) rfl dX0_init_40 ?_
  refine lv_iload_n hx hb dX0_init_43 rfl (lv_at hl 0 rfl) ?_
  refine va_new (ci := 5) (fs := [.int 0, .int 0]) (C := RX5) (T := TX5) (N := 2) hx hb hts (fun w h => List.mem_cons_of_mem _ (jnGA_X5 w h)) tyX5 tyX5_ok hown (hts _ (List.mem_cons_of_mem _ mGA_81)) (hts _ (List.mem_cons_of_mem _ mGA_87)) (hts _ (List.mem_cons_of_mem _ mGA_88)) hK hP hD hS hA rfl dfX5 (Nat.le_of_ble_eq_true rfl) (Nat.le_of_ble_eq_true rfl) dX0_init_44 (fun q_24 H hP hD hS => ?_)
  have hP : va_P (dC, dI) vwCl [(h0, .inr (0, [.int 0, .int 0, .int 0, .int 0, .int 0, .int 0, .int 0, .int 0, .int 0, .int 0, .ref q_1, .ref q_3, .ref q_5])), (q_1, .inl (k_2, 6, .inr (.inr (.inr (.inr f_22))))), (q_3, .inl (k_4, 24, .inr (.inr (.inr (.inr (fun _ => none)))))), (q_5, .inl (k_6, 8, .inr (.inr (.inr (.inr (fun _ => none)))))), (q_24, .inr (5, [.int 0, .int 0]))] H := hP
  have hD : va_D A [(h0, .inr (0, [.int 0, .int 0, .int 0, .int 0, .int 0, .int 0, .int 0, .int 0, .int 0, .int 0, .ref q_1, .ref q_3, .ref q_5])), (q_1, .inl (k_2, 6, .inr (.inr (.inr (.inr f_22))))), (q_3, .inl (k_4, 24, .inr (.inr (.inr (.inr (fun _ => none)))))), (q_5, .inl (k_6, 8, .inr (.inr (.inr (.inr (fun _ => none)))))), (q_24, .inr (5, [.int 0, .int 0]))] := hD
  refine W.widen (k := 8) (n := 48) (Nat.le_of_ble_eq_true rfl) (Nat.le_of_ble_eq_true rfl) ?_
  refine lv_dup hx hb dX0_init_47 rfl ?_
  have hPc := hP.sub (ws' := []) [] rfl
  have hKc := hK.sub (tys' := []) [] rfl
  refine va_callv (va_runIN (As := []) (rest := [.ref q_24, .int 4, .ref q_1]) ⟨hx, hb, hml, hown, hts⟩ (fX5_init l dC dI q_24) (⟨va_cnB 0 hts (gz_gP mGA_89 goodGA) rfl rfl rfl (nzA_X0_29 hz) (hts _ (List.mem_cons_of_mem _ mGA_88)) (by decide +kernel) ⟨Nat.le_of_ble_eq_true rfl, Nat.le_of_ble_eq_true rfl⟩, rfl, (hts _ (List.mem_cons_of_mem _ mGA_90))⟩) ⟨fun a U g mk q => by obtain ⟨q0, qP, qK⟩ := q; exact ⟨q0, qP, va_K.moved (u := U) (U := U.calling g mk a) (Vm.Alike.refl U.vm) qK⟩, fun U hU hW => ⟨rfl, by rw [hU]; exact hPc, va_K.moved hW.alike hKc⟩⟩ rfl rfl hl.1 rfl (lv_room (Nat.le_of_ble_eq_true rfl)) dX0_init_48 ⟨Nat.le_of_ble_eq_true rfl, Nat.le_of_ble_eq_true rfl⟩) hS (fun q _ h => h.elim) (fun q h => h.elim) (fun  u t H1 locs ht hvm hw hB hz1 hk1 hS => ?_)
  have hP := gz_keep hP hk1
  generalize H1 = H at hP hS ⊢
  refine va_astq hx hb hK hP hD hS 1 0 4 5 rfl rfl rfl rfl (by unfold vp_in; decide) dX0_init_51 (fun H locs hP hD hS => ?_)
  have hP : va_P (dC, dI) vwCl [(h0, .inr (0, [.int 0, .int 0, .int 0, .int 0, .int 0, .int 0, .int 0, .int 0, .int 0, .int 0, .ref q_1, .ref q_3, .ref q_5])), (q_1, .inl (k_2, 6, .inr (.inr (.inr (.inr (va_up f_22 (4 : Int32).toNatClampNeg (some q_24))))))), (q_3, .inl (k_4, 24, .inr (.inr (.inr (.inr (fun _ => none)))))), (q_5, .inl (k_6, 8, .inr (.inr (.inr (.inr (fun _ => none)))))), (q_24, .inr (5, [.int 0, .int 0]))] H := hP
  have hD : va_D A [(h0, .inr (0, [.int 0, .int 0, .int 0, .int 0, .int 0, .int 0, .int 0, .int 0, .int 0, .int 0, .ref q_1, .ref q_3, .ref q_5])), (q_1, .inl (k_2, 6, .inr (.inr (.inr (.inr (va_up f_22 (4 : Int32).toNatClampNeg (some q_24))))))), (q_3, .inl (k_4, 24, .inr (.inr (.inr (.inr (fun _ => none)))))), (q_5, .inl (k_6, 8, .inr (.inr (.inr (.inr (fun _ => none)))))), (q_24, .inr (5, [.int 0, .int 0]))] := hD
  generalize va_up f_22 (4 : Int32).toNatClampNeg (some q_24) = f_26 at hP hD
  have hP := hP.sub (ws' := [(h0, .inr (0, [.int 0, .int 0, .int 0, .int 0, .int 0, .int 0, .int 0, .int 0, .int 0, .int 0, .ref q_1, .ref q_3, .ref q_5])), (q_1, .inl (k_2, 6, .inr (.inr (.inr (.inr f_26))))), (q_3, .inl (k_4, 24, .inr (.inr (.inr (.inr (fun _ => none)))))), (q_5, .inl (k_6, 8, .inr (.inr (.inr (.inr (fun _ => none))))))]) [0, 1, 2, 3] rfl
  have hD := hD.sub (ws' := [(h0, .inr (0, [.int 0, .int 0, .int 0, .int 0, .int 0, .int 0, .int 0, .int 0, .int 0, .int 0, .ref q_1, .ref q_3, .ref q_5])), (q_1, .inl (k_2, 6, .inr (.inr (.inr (.inr f_26))))), (q_3, .inl (k_4, 24, .inr (.inr (.inr (.inr (fun _ => none)))))), (q_5, .inl (k_6, 8, .inr (.inr (.inr (.inr (fun _ => none))))))]) [0, 1, 2, 3] (by decide) rfl
  refine lv_iinc (v := 5) (lv' := [(1, .int 5), (0, .ref h0)]) hx hb dX0_init_52 hl (k := 0) rfl (by decide) (by decide) rfl (fun ls hl => ?_)
  refine lv_goto (tgt := 33) hx hb dX0_init_55 (by decide) ?_
  refine lv_iload_n hx hb dX0_init_33 rfl (lv_at hl 0 rfl) ?_
  refine lv_bipush (v := 6) hx hb dX0_init_34 (by decide) ?_
  refine lv_icmp_ge (tgt := 58) hx hb dX0_init_36 (by decide) (fun c_27 => absurd c_27 (by decide)) (fun c_27 => ?_)
  refine lv_aload_n hx hb dX0_init_39 rfl (lv_at hl 1 rfl) ?_
  refine va_get (D := (dC, dI)) (ci := 0) (v := .ref q_1) (C := RX0) (T := TX0) (N := 13) hx hb hts (fun w h => List.mem_cons_of_mem _ (jnGA_X0 w h)) hown hK hP 0 rfl rfl 10 (by decide) (hts _ (List.mem_cons_of_mem _ mGA_82)) (fun _ h9 => h9) rfl dX0_init_40 ?_
  refine lv_iload_n hx hb dX0_init_43 rfl (lv_at hl 0 rfl) ?_
  refine va_new (ci := 5) (fs := [.int 0, .int 0]) (C := RX5) (T := TX5) (N := 2) hx hb hts (fun w h => List.mem_cons_of_mem _ (jnGA_X5 w h)) tyX5 tyX5_ok hown (hts _ (List.mem_cons_of_mem _ mGA_81)) (hts _ (List.mem_cons_of_mem _ mGA_87)) (hts _ (List.mem_cons_of_mem _ mGA_88)) hK hP hD hS hA rfl dfX5 (Nat.le_of_ble_eq_true rfl) (Nat.le_of_ble_eq_true rfl) dX0_init_44 (fun q_28 H hP hD hS => ?_)
  have hP : va_P (dC, dI) vwCl [(h0, .inr (0, [.int 0, .int 0, .int 0, .int 0, .int 0, .int 0, .int 0, .int 0, .int 0, .int 0, .ref q_1, .ref q_3, .ref q_5])), (q_1, .inl (k_2, 6, .inr (.inr (.inr (.inr f_26))))), (q_3, .inl (k_4, 24, .inr (.inr (.inr (.inr (fun _ => none)))))), (q_5, .inl (k_6, 8, .inr (.inr (.inr (.inr (fun _ => none)))))), (q_28, .inr (5, [.int 0, .int 0]))] H := hP
  have hD : va_D A [(h0, .inr (0, [.int 0, .int 0, .int 0, .int 0, .int 0, .int 0, .int 0, .int 0, .int 0, .int 0, .ref q_1, .ref q_3, .ref q_5])), (q_1, .inl (k_2, 6, .inr (.inr (.inr (.inr f_26))))), (q_3, .inl (k_4, 24, .inr (.inr (.inr (.inr (fun _ => none)))))), (q_5, .inl (k_6, 8, .inr (.inr (.inr (.inr (fun _ => none)))))), (q_28, .inr (5, [.int 0, .int 0]))] := hD
  refine W.widen (k := 9) (n := 50) (Nat.le_of_ble_eq_true rfl) (Nat.le_of_ble_eq_true rfl) ?_
  refine lv_dup hx hb dX0_init_47 rfl ?_
  have hPc := hP.sub (ws' := []) [] rfl
  have hKc := hK.sub (tys' := []) [] rfl
  refine va_callv (va_runIN (As := []) (rest := [.ref q_28, .int 5, .ref q_1]) ⟨hx, hb, hml, hown, hts⟩ (fX5_init l dC dI q_28) (⟨va_cnB 0 hts (gz_gP mGA_89 goodGA) rfl rfl rfl (nzA_X0_29 hz) (hts _ (List.mem_cons_of_mem _ mGA_88)) (by decide +kernel) ⟨Nat.le_of_ble_eq_true rfl, Nat.le_of_ble_eq_true rfl⟩, rfl, (hts _ (List.mem_cons_of_mem _ mGA_90))⟩) ⟨fun a U g mk q => by obtain ⟨q0, qP, qK⟩ := q; exact ⟨q0, qP, va_K.moved (u := U) (U := U.calling g mk a) (Vm.Alike.refl U.vm) qK⟩, fun U hU hW => ⟨rfl, by rw [hU]; exact hPc, va_K.moved hW.alike hKc⟩⟩ rfl rfl hl.1 rfl (lv_room (Nat.le_of_ble_eq_true rfl)) dX0_init_48 ⟨Nat.le_of_ble_eq_true rfl, Nat.le_of_ble_eq_true rfl⟩) hS (fun q _ h => h.elim) (fun q h => h.elim) (fun  u t H1 locs ht hvm hw hB hz1 hk1 hS => ?_)
  have hP := gz_keep hP hk1
  generalize H1 = H at hP hS ⊢
  refine va_astq hx hb hK hP hD hS 1 0 4 5 rfl rfl rfl rfl (by unfold vp_in; decide) dX0_init_51 (fun H locs hP hD hS => ?_)
  have hP : va_P (dC, dI) vwCl [(h0, .inr (0, [.int 0, .int 0, .int 0, .int 0, .int 0, .int 0, .int 0, .int 0, .int 0, .int 0, .ref q_1, .ref q_3, .ref q_5])), (q_1, .inl (k_2, 6, .inr (.inr (.inr (.inr (va_up f_26 (5 : Int32).toNatClampNeg (some q_28))))))), (q_3, .inl (k_4, 24, .inr (.inr (.inr (.inr (fun _ => none)))))), (q_5, .inl (k_6, 8, .inr (.inr (.inr (.inr (fun _ => none)))))), (q_28, .inr (5, [.int 0, .int 0]))] H := hP
  have hD : va_D A [(h0, .inr (0, [.int 0, .int 0, .int 0, .int 0, .int 0, .int 0, .int 0, .int 0, .int 0, .int 0, .ref q_1, .ref q_3, .ref q_5])), (q_1, .inl (k_2, 6, .inr (.inr (.inr (.inr (va_up f_26 (5 : Int32).toNatClampNeg (some q_28))))))), (q_3, .inl (k_4, 24, .inr (.inr (.inr (.inr (fun _ => none)))))), (q_5, .inl (k_6, 8, .inr (.inr (.inr (.inr (fun _ => none)))))), (q_28, .inr (5, [.int 0, .int 0]))] := hD
  generalize va_up f_26 (5 : Int32).toNatClampNeg (some q_28) = f_30 at hP hD
  have hP := hP.sub (ws' := [(h0, .inr (0, [.int 0, .int 0, .int 0, .int 0, .int 0, .int 0, .int 0, .int 0, .int 0, .int 0, .ref q_1, .ref q_3, .ref q_5])), (q_1, .inl (k_2, 6, .inr (.inr (.inr (.inr f_30))))), (q_3, .inl (k_4, 24, .inr (.inr (.inr (.inr (fun _ => none)))))), (q_5, .inl (k_6, 8, .inr (.inr (.inr (.inr (fun _ => none))))))]) [0, 1, 2, 3] rfl
  have hD := hD.sub (ws' := [(h0, .inr (0, [.int 0, .int 0, .int 0, .int 0, .int 0, .int 0, .int 0, .int 0, .int 0, .int 0, .ref q_1, .ref q_3, .ref q_5])), (q_1, .inl (k_2, 6, .inr (.inr (.inr (.inr f_30))))), (q_3, .inl (k_4, 24, .inr (.inr (.inr (.inr (fun _ => none)))))), (q_5, .inl (k_6, 8, .inr (.inr (.inr (.inr (fun _ => none))))))]) [0, 1, 2, 3] (by decide) rfl
  refine lv_iinc (v := 6) (lv' := [(1, .int 6), (0, .ref h0)]) hx hb dX0_init_52 hl (k := 0) rfl (by decide) (by decide) rfl (fun ls hl => ?_)
  refine lv_goto (tgt := 33) hx hb dX0_init_55 (by decide) ?_
  refine lv_iload_n hx hb dX0_init_33 rfl (lv_at hl 0 rfl) ?_
  refine lv_bipush (v := 6) hx hb dX0_init_34 (by decide) ?_
  refine lv_icmp_ge (tgt := 58) hx hb dX0_init_36 (by decide) (fun c_31 => ?_) (fun c_31 => absurd (by decide) c_31)
  refine lv_iconst (v := 0) hx hb dX0_init_58 (by decide) ?_
  refine lv_istore_n (lv' := [(1, .int 0), (0, .ref h0)]) hx hb dX0_init_59 rfl hl (by decide) rfl (fun ls hl => ?_)
  refine lv_iload_n hx hb dX0_init_60 rfl (lv_at hl 0 rfl) ?_
  refine lv_bipush (v := 24) hx hb dX0_init_61 (by decide) ?_
  refine lv_icmp_ge (tgt := 85) hx hb dX0_init_63 (by decide) (fun c_32 => absurd c_32 (by decide)) (fun c_32 => ?_)
  refine lv_aload_n hx hb dX0_init_66 rfl (lv_at hl 1 rfl) ?_
  refine va_get (D := (dC, dI)) (ci := 0) (v := .ref q_3) (C := RX0) (T := TX0) (N := 13) hx hb hts (fun w h => List.mem_cons_of_mem _ (jnGA_X0 w h)) hown hK hP 0 rfl rfl 11 (by decide) (hts _ (List.mem_cons_of_mem _ mGA_84)) (fun _ h9 => h9) rfl dX0_init_67 ?_
  refine lv_iload_n hx hb dX0_init_70 rfl (lv_at hl 0 rfl) ?_
  refine va_new (ci := 7) (fs := [.int 0, .int 0, .int 0, .int 0, .int 0, .int 0]) (C := RX7) (T := TX7) (N := 6) hx hb hts (fun w h => List.mem_cons_of_mem _ (jnGA_X7 w h)) tyX7 tyX7_ok hown (hts _ (List.mem_cons_of_mem _ mGA_83)) (hts _ (List.mem_cons_of_mem _ mGA_91)) (hts _ (List.mem_cons_of_mem _ mGA_92)) hK hP hD hS hA rfl dfX7 (Nat.le_of_ble_eq_true rfl) (Nat.le_of_ble_eq_true rfl) dX0_init_71 (fun q_33 H hP hD hS => ?_)
  have hP : va_P (dC, dI) vwCl [(h0, .inr (0, [.int 0, .int 0, .int 0, .int 0, .int 0, .int 0, .int 0, .int 0, .int 0, .int 0, .ref q_1, .ref q_3, .ref q_5])), (q_1, .inl (k_2, 6, .inr (.inr (.inr (.inr f_30))))), (q_3, .inl (k_4, 24, .inr (.inr (.inr (.inr (fun _ => none)))))), (q_5, .inl (k_6, 8, .inr (.inr (.inr (.inr (fun _ => none)))))), (q_33, .inr (7, [.int 0, .int 0, .int 0, .int 0, .int 0, .int 0]))] H := hP
  have hD : va_D A [(h0, .inr (0, [.int 0, .int 0, .int 0, .int 0, .int 0, .int 0, .int 0, .int 0, .int 0, .int 0, .ref q_1, .ref q_3, .ref q_5])), (q_1, .inl (k_2, 6, .inr (.inr (.inr (.inr f_30))))), (q_3, .inl (k_4, 24, .inr (.inr (.inr (.inr (fun _ => none)))))), (q_5, .inl (k_6, 8, .inr (.inr (.inr (.inr (fun _ => none)))))), (q_33, .inr (7, [.int 0, .int 0, .int 0, .int 0, .int 0, .int 0]))] := hD
  refine W.widen (k := 10) (n := 56) (Nat.le_of_ble_eq_true rfl) (Nat.le_of_ble_eq_true rfl) ?_
  refine lv_dup hx hb dX0_init_74 rfl ?_
  have hPc := hP.sub (ws' := []) [] rfl
  have hKc := hK.sub (tys' := []) [] rfl
  refine va_callv (va_runIN (As := []) (rest := [.ref q_33, .int 0, .ref q_3]) ⟨hx, hb, hml, hown, hts⟩ (fX7_init l dC dI q_33) (⟨va_cnB 0 hts (gz_gP mGA_93 goodGA) rfl rfl rfl (nzA_X0_30 hz) (hts _ (List.mem_cons_of_mem _ mGA_92)) (by decide +kernel) ⟨Nat.le_of_ble_eq_true rfl, Nat.le_of_ble_eq_true rfl⟩, rfl, (hts _ (List.mem_cons_of_mem _ mGA_94))⟩) ⟨fun a U g mk q => by obtain ⟨q0, qP, qK⟩ := q; exact ⟨q0, qP, va_K.moved (u := U) (U := U.calling g mk a) (Vm.Alike.refl U.vm) qK⟩, fun U hU hW => ⟨rfl, by rw [hU]; exact hPc, va_K.moved hW.alike hKc⟩⟩ rfl rfl hl.1 rfl (lv_room (Nat.le_of_ble_eq_true rfl)) dX0_init_75 ⟨Nat.le_of_ble_eq_true rfl, Nat.le_of_ble_eq_true rfl⟩) hS (fun q _ h => h.elim) (fun q h => h.elim) (fun  u t H1 locs ht hvm hw hB hz1 hk1 hS => ?_)
  have hP := gz_keep hP hk1
  generalize H1 = H at hP hS ⊢
  refine va_astq hx hb hK hP hD hS 2 1 4 7 rfl rfl rfl rfl (by unfold vp_in; decide) dX0_init_78 (fun H locs hP hD hS => ?_)
  have hP : va_P (dC, dI) vwCl [(h0, .inr (0, [.int 0, .int 0, .int 0, .int 0, .int 0, .int 0, .int 0, .int 0, .int 0, .int 0, .ref q_1, .ref q_3, .ref q_5])), (q_1, .inl (k_2, 6, .inr (.inr (.inr (.inr f_30))))), (q_3, .inl (k_4, 24, .inr (.inr (.inr (.inr (va_up (fun _ => none) (0 : Int32).toNatClampNeg (some q_33))))))), (q_5, .inl (k_6, 8, .inr (.inr (.inr (.inr (fun _ => none)))))), (q_33, .inr (7, [.int 0, .int 0, .int 0, .int 0, .int 0, .int 0]))] H := hP
  have hD : va_D A [(h0, .inr (0, [.int 0, .int 0, .int 0, .int 0, .int 0, .int 0, .int 0, .int 0, .int 0, .int 0, .ref q_1, .ref q_3, .ref q_5])), (q_1, .inl (k_2, 6, .inr (.inr (.inr (.inr f_30))))), (q_3, .inl (k_4, 24, .inr (.inr (.inr (.inr (va_up (fun _ => none) (0 : Int32).toNatClampNeg (some q_33))))))), (q_5, .inl (k_6, 8, .inr (.inr (.inr (.inr (fun _ => none)))))), (q_33, .inr (7, [.int 0, .int 0, .int 0, .int 0, .int 0, .int 0]))] := hD
  generalize va_up (fun _ => none) (0 : Int32).toNatClampNeg (some q_33) = f_35 at hP hD
  have hP := hP.sub (ws' := [(h0, .inr (0, [.int 0, .int 0, .int 0, .int 0, .int 0, .int 0, .int 0, .int 0, .int 0, .int 0, .ref q_1, .ref q_3, .ref q_5])), (q_1, .inl (k_2, 6, .inr (.inr (.inr (.inr f_30))))), (q_3, .inl (k_4, 24, .inr (.inr (.inr (.inr f_35))))), (q_5, .inl (k_6, 8, .inr (.inr (.inr (.inr (fun _ => none))))))]) [0, 1, 2, 3] rfl
  have hD := hD.sub (ws' := [(h0, .inr (0, [.int 0, .int 0, .int 0, .int 0, .int 0, .int 0, .int 0, .int 0, .int 0, .int 0, .ref q_1, .ref q_3, .ref q_5])), (q_1, .inl (k_2, 6, .inr (.inr (.inr (.inr f_30))))), (q_3, .inl (k_4, 24, .inr (.inr (.inr (.inr f_35))))), (q_5, .inl (k_6, 8, .inr (.inr (.inr (.inr (fun _ => none))))))]) [0, 1, 2, 3] (by decide) rfl
  refine lv_iinc (v := 1) (lv' := [(1, .int 1), (0, .ref h0)]) hx hb dX0_init_79 hl (k := 0) rfl (by decide) (by decide) rfl (fun ls hl => ?_)
  refine lv_goto (tgt := 60) hx hb dX0_init_82 (by decide) ?_
  refine lv_iload_n hx hb dX0_init_60 rfl (lv_at hl 0 rfl) ?_
  refine lv_bipush (v := 24) hx hb dX0_init_61 (by decide) ?_
  refine lv_icmp_ge (tgt := 85) hx hb dX0_init_63 (by decide) (fun c_36 => absurd c_36 (by decide)) (fun c_36 => ?_)
  refine lv_aload_n hx hb dX0_init_66 rfl (lv_at hl 1 rfl) ?_
  refine va_get (D := (dC, dI)) (ci := 0) (v := .ref q_3) (C := RX0) (T := TX0) (N := 13) hx hb hts (fun w h => List.mem_cons_of_mem _ (jnGA_X0 w h)) hown hK hP 0 rfl rfl 11 (by decide) (hts _ (List.mem_cons_of_mem _ mGA_84)) (fun _ h9 => h9) rfl dX0_init_67 ?_
  refine lv_iload_n hx hb dX0_init_70 rfl (lv_at hl 0 rfl) ?_
  refine va_new (ci := 7) (fs := [.int 0, .int 0, .int 0, .int 0, .int 0, .int 0]) (C := RX7) (T := TX7) (N := 6) hx hb hts (fun w h => List.mem_cons_of_mem _ (jnGA_X7 w h)) tyX7 tyX7_ok hown (hts _ (List.mem_cons_of_mem _ mGA_83)) (hts _ (List.mem_cons_of_mem _ mGA_91)) (hts _ (List.mem_cons_of_mem _ mGA_92)) hK hP hD hS hA rfl dfX7 (Nat.le_of_ble_eq_true rfl) (Nat.le_of_ble_eq_true rfl) dX0_init_71 (fun q_37 H hP hD hS => ?_)
  have hP : va_P (dC, dI) vwCl [(h0, .inr (0, [.int 0, .int 0, .int 0, .int 0, .int 0, .int 0, .int 0, .int 0, .int 0, .int 0, .ref q_1, .ref q_3, .ref q_5])), (q_1, .inl (k_2, 6, .inr (.inr (.inr (.inr f_30))))), (q_3, .inl (k_4, 24, .inr (.inr (.inr (.inr f_35))))), (q_5, .inl (k_6, 8, .inr (.inr (.inr (.inr (fun _ => none)))))), (q_37, .inr (7, [.int 0, .int 0, .int 0, .int 0, .int 0, .int 0]))] H := hP
  have hD : va_D A [(h0, .inr (0, [.int 0, .int 0, .int 0, .int 0, .int 0, .int 0, .int 0, .int 0, .int 0, .int 0, .ref q_1, .ref q_3, .ref q_5])), (q_1, .inl (k_2, 6, .inr (.inr (.inr (.inr f_30))))), (q_3, .inl (k_4, 24, .inr (.inr (.inr (.inr f_35))))), (q_5, .inl (k_6, 8, .inr (.inr (.inr (.inr (fun _ => none)))))), (q_37, .inr (7, [.int 0, .int 0, .int 0, .int 0, .int 0, .int 0]))] := hD
  refine W.widen (k := 11) (n := 62) (Nat.le_of_ble_eq_true rfl) (Nat.le_of_ble_eq_true rfl) ?_
  refine lv_dup hx hb dX0_init_74 rfl ?_
  have hPc := hP.sub (ws' := []) [] rfl
  have hKc := hK.sub (tys' := []) [] rfl
  refine va_callv (va_runIN (As := []) (rest := [.ref q_37, .int 1, .ref q_3]) ⟨hx, hb, hml, hown, hts⟩ (fX7_init l dC dI q_37) (⟨va_cnB 0 hts (gz_gP mGA_93 goodGA) rfl rfl rfl (nzA_X0_30 hz) (hts _ (List.mem_cons_of_mem _ mGA_92)) (by decide +kernel) ⟨Nat.le_of_ble_eq_true rfl, Nat.le_of_ble_eq_true rfl⟩, rfl, (hts _ (List.mem_cons_of_mem _ mGA_94))⟩) ⟨fun a U g mk q => by obtain ⟨q0, qP, qK⟩ := q; exact ⟨q0, qP, va_K.moved (u := U) (U := U.calling g mk a) (Vm.Alike.refl U.vm) qK⟩, fun U hU hW => ⟨rfl, by rw [hU]; exact hPc, va_K.moved hW.alike hKc⟩⟩ rfl rfl hl.1 rfl (lv_room (Nat.le_of_ble_eq_true rfl)) dX0_init_75 ⟨Nat.le_of_ble_eq_true rfl, Nat.le_of_ble_eq_true rfl⟩) hS (fun q _ h => h.elim) (fun q h => h.elim) (fun  u t H1 locs ht hvm hw hB hz1 hk1 hS => ?_)
  have hP := gz_keep hP hk1
  generalize H1 = H at hP hS ⊢
  refine va_astq hx hb hK hP hD hS 2 1 4 7 rfl rfl rfl rfl (by unfold vp_in; decide) dX0_init_78 (fun H locs hP hD hS => ?_)
  have hP : va_P (dC, dI) vwCl [(h0, .inr (0, [.int 0, .int 0, .int 0, .int 0, .int 0, .int 0, .int 0, .int 0, .int 0, .int 0, .ref q_1, .ref q_3, .ref q_5])), (q_1, .inl (k_2, 6, .inr (.inr (.inr (.inr f_30))))), (q_3, .inl (k_4, 24, .inr (.inr (.inr (.inr (va_up f_35 (1 : Int32).toNatClampNeg (some q_37))))))), (q_5, .inl (k_6, 8, .inr (.inr (.inr (.inr (fun _ => none)))))), (q_37, .inr (7, [.int 0, .int 0, .int 0, .int 0, .int 0, .int 0]))] H := hP
  have hD : va_D A [(h0, .inr (0, [.int 0, .int 0, .int 0, .int 0, .int 0, .int 0, .int 0, .int 0, .int 0, .int 0, .ref q_1, .ref q_3, .ref q_5])), (q_1, .inl (k_2, 6, .inr (.inr (.inr (.inr f_30))))), (q_3, .inl (k_4, 24, .inr (.inr (.inr (.inr (va_up f_35 (1 : Int32).toNatClampNeg (some q_37))))))), (q_5, .inl (k_6, 8, .inr (.inr (.inr (.inr (fun _ => none)))))), (q_37, .inr (7, [.int 0, .int 0, .int 0, .int 0, .int 0, .int 0]))] := hD
  generalize va_up f_35 (1 : Int32).toNatClampNeg (some q_37) = f_39 at hP hD
  have hP := hP.sub (ws' := [(h0, .inr (0, [.int 0, .int 0, .int 0, .int 0, .int 0, .int 0, .int 0, .int 0, .int 0, .int 0, .ref q_1, .ref q_3, .ref q_5])), (q_1, .inl (k_2, 6, .inr (.inr (.inr (.inr f_30))))), (q_3, .inl (k_4, 24, .inr (.inr (.inr (.inr f_39))))), (q_5, .inl (k_6, 8, .inr (.inr (.inr (.inr (fun _ => none))))))]) [0, 1, 2, 3] rfl
  have hD := hD.sub (ws' := [(h0, .inr (0, [.int 0, .int 0, .int 0, .int 0, .int 0, .int 0, .int 0, .int 0, .int 0, .int 0, .ref q_1, .ref q_3, .ref q_5])), (q_1, .inl (k_2, 6, .inr (.inr (.inr (.inr f_30))))), (q_3, .inl (k_4, 24, .inr (.inr (.inr (.inr f_39))))), (q_5, .inl (k_6, 8, .inr (.inr (.inr (.inr (fun _ => none))))))]) [0, 1, 2, 3] (by decide) rfl
  refine lv_iinc (v := 2) (lv' := [(1, .int 2), (0, .ref h0)]) hx hb dX0_init_79 hl (k := 0) rfl (by decide) (by decide) rfl (fun ls hl => ?_)
  refine lv_goto (tgt := 60) hx hb dX0_init_82 (by decide) ?_
  refine lv_iload_n hx hb dX0_init_60 rfl (lv_at hl 0 rfl) ?_
  refine lv_bipush (v := 24) hx hb dX0_init_61 (by decide) ?_
  refine lv_icmp_ge (tgt := 85) hx hb dX0_init_63 (by decide) (fun c_40 => absurd c_40 (by decide)) (fun c_40 => ?_)
  refine lv_aload_n hx hb dX0_init_66 rfl (lv_at hl 1 rfl) ?_
  refine va_get (D := (dC, dI)) (ci := 0) (v := .ref q_3) (C := RX0) (T := TX0) (N := 13) hx hb hts (fun w h => List.mem_cons_of_mem _ (jnGA_X0 w h)) hown hK hP 0 rfl rfl 11 (by decide) (hts _ (List.mem_cons_of_mem _ mGA_84)) (fun _ h9 => h9) rfl dX0_init_67 ?_
  refine lv_iload_n hx hb dX0_init_70 rfl (lv_at hl 0 rfl) ?_
  refine va_new (ci := 7) (fs := [.int 0, .int 0, .int 0, .int 0, .int 0, .int 0]) (C := RX7) (T := TX7) (N := 6) hx hb hts (fun w h => List.mem_cons_of_mem _ (jnGA_X7 w h)) tyX7 tyX7_ok hown (hts _ (List.mem_cons_of_mem _ mGA_83)) (hts _ (List.mem_cons_of_mem _ mGA_91)) (hts _ (List.mem_cons_of_mem _ mGA_92)) hK hP hD hS hA rfl dfX7 (Nat.le_of_ble_eq_true rfl) (Nat.le_of_ble_eq_true rfl) dX0_init_71 (fun q_41 H hP hD hS => ?_)
  have hP : va_P (dC, dI) vwCl [(h0, .inr (0, [.int 0, .int 0, .int 0, .int 0, .int 0, .int 0, .int 0, .int 0, .int 0, .int 0, .ref q_1, .ref q_3, .ref q_5])), (q_1, .inl (k_2, 6, .inr (.inr (.inr (.inr f_30))))), (q_3, .inl (k_4, 24, .inr (.inr (.inr (.inr f_39))))), (q_5, .inl (k_6, 8, .inr (.inr (.inr (.inr (fun _ => none)))))), (q_41, .inr (7, [.int 0, .int 0, .int 0, .int 0, .int 0, .int 0]))] H := hP
  have hD : va_D A [(h0, .inr (0, [.int 0, .int 0, .int 0, .int 0, .int 0, .int 0, .int 0, .int 0, .int 0, .int 0, .ref q_1, .ref q_3, .ref q_5])), (q_1, .inl (k_2, 6, .inr (.inr (.inr (.inr f_30))))), (q_3, .inl (k_4, 24, .inr (.inr (.inr (.inr f_39))))), (q_5, .inl (k_6, 8, .inr (.inr (.inr (.inr (fun _ => none)))))), (q_41, .inr (7, [.int 0, .int 0, .int 0, .int 0, .int 0, .int 0]))] := hD
  refine W.widen (k := 12) (n := 68) (Nat.le_of_ble_eq_true rfl) (Nat.le_of_ble_eq_true rfl) ?_
  refine lv_dup hx hb dX0_init_74 rfl ?_
  have hPc := hP.sub (ws' := []) [] rfl
  have hKc := hK.sub (tys' := []) [] rfl
  refine va_callv (va_runIN (As := []) (rest := [.ref q_41, .int 2, .ref q_3]) ⟨hx, hb, hml, hown, hts⟩ (fX7_init l dC dI q_41) (⟨va_cnB 0 hts (gz_gP mGA_93 goodGA) rfl rfl rfl (nzA_X0_30 hz) (hts _ (List.mem_cons_of_mem _ mGA_92)) (by decide +kernel) ⟨Nat.le_of_ble_eq_true rfl, Nat.le_of_ble_eq_true rfl⟩, rfl, (hts _ (List.mem_cons_of_mem _ mGA_94))⟩) ⟨fun a U g mk q => by obtain ⟨q0, qP, qK⟩ := q; exact ⟨q0, qP, va_K.moved (u := U) (U := U.calling g mk a) (Vm.Alike.refl U.vm) qK⟩, fun U hU hW => ⟨rfl, by rw [hU]; exact hPc, va_K.moved hW.alike hKc⟩⟩ rfl rfl hl.1 rfl (lv_room (Nat.le_of_ble_eq_true rfl)) dX0_init_75 ⟨Nat.le_of_ble_eq_true rfl, Nat.le_of_ble_eq_true rfl⟩) hS (fun q _ h => h.elim) (fun q h => h.elim) (fun  u t H1 locs ht hvm hw hB hz1 hk1 hS => ?_)
  have hP := gz_keep hP hk1
  generalize H1 = H at hP hS ⊢
  refine va_astq hx hb hK hP hD hS 2 1 4 7 rfl rfl rfl rfl (by unfold vp_in; decide) dX0_init_78 (fun H locs hP hD hS => ?_)
  have hP : va_P (dC, dI) vwCl [(h0, .inr (0, [.int 0, .int 0, .int 0, .int 0, .int 0, .int 0, .int 0, .int 0, .int 0, .int 0, .ref q_1, .ref q_3, .ref q_5])), (q_1, .inl (k_2, 6, .inr (.inr (.inr (.inr f_30))))), (q_3, .inl (k_4, 24, .inr (.inr (.inr (.inr (va_up f_39 (2 : Int32).toNatClampNeg (some q_41))))))), (q_5, .inl (k_6, 8, .inr (.inr (.inr (.inr (fun _ => none)))))), (q_41, .inr (7, [.int 0, .int 0, .int 0, .int 0, .int 0, .int 0]))] H := hP
  have hD : va_D A [(h0, .inr (0, [.int 0, .int 0, .int 0, .int 0, .int 0, .int 0, .int 0, .int 0, .int 0, .int 0, .ref q_1, .ref q_3, .ref q_5])), (q_1, .inl (k_2, 6, .inr (.inr (.inr (.inr f_30))))), (q_3, .inl (k_4, 24, .inr (.inr (.inr (.inr (va_up f_39 (2 : Int32).toNatClampNeg (some q_41))))))), (q_5, .inl (k_6, 8, .inr (.inr (.inr (.inr (fun _ => none)))))), (q_41, .inr (7, [.int 0, .int 0, .int 0, .int 0, .int 0, .int 0]))] := hD
  generalize va_up f_39 (2 : Int32).toNatClampNeg (some q_41) = f_43 at hP hD
  have hP := hP.sub (ws' := [(h0, .inr (0, [.int 0, .int 0, .int 0, .int 0, .int 0, .int 0, .int 0, .int 0, .int 0, .int 0, .ref q_1, .ref q_3, .ref q_5])), (q_1, .inl (k_2, 6, .inr (.inr (.inr (.inr f_30))))), (q_3, .inl (k_4, 24, .inr (.inr (.inr (.inr f_43))))), (q_5, .inl (k_6, 8, .inr (.inr (.inr (.inr (fun _ => none))))))]) [0, 1, 2, 3] rfl
  have hD := hD.sub (ws' := [(h0, .inr (0, [.int 0, .int 0, .int 0, .int 0, .int 0, .int 0, .int 0, .int 0, .int 0, .int 0, .ref q_1, .ref q_3, .ref q_5])), (q_1, .inl (k_2, 6, .inr (.inr (.inr (.inr f_30))))), (q_3, .inl (k_4, 24, .inr (.inr (.inr (.inr f_43))))), (q_5, .inl (k_6, 8, .inr (.inr (.inr (.inr (fun _ => none))))))]) [0, 1, 2, 3] (by decide) rfl
  refine lv_iinc (v := 3) (lv' := [(1, .int 3), (0, .ref h0)]) hx hb dX0_init_79 hl (k := 0) rfl (by decide) (by decide) rfl (fun ls hl => ?_)
  refine lv_goto (tgt := 60) hx hb dX0_init_82 (by decide) ?_
  refine lv_iload_n hx hb dX0_init_60 rfl (lv_at hl 0 rfl) ?_
  refine lv_bipush (v := 24) hx hb dX0_init_61 (by decide) ?_
  refine lv_icmp_ge (tgt := 85) hx hb dX0_init_63 (by decide) (fun c_44 => absurd c_44 (by decide)) (fun c_44 => ?_)
  refine lv_aload_n hx hb dX0_init_66 rfl (lv_at hl 1 rfl) ?_
  refine va_get (D := (dC, dI)) (ci := 0) (v := .ref q_3) (C := RX0) (T := TX0) (N := 13) hx hb hts (fun w h => List.mem_cons_of_mem _ (jnGA_X0 w h)) hown hK hP 0 rfl rfl 11 (by decide) (hts _ (List.mem_cons_of_mem _ mGA_84)) (fun _ h9 => h9) rfl dX0_init_67 ?_
  refine lv_iload_n hx hb dX0_init_70 rfl (lv_at hl 0 rfl) ?_
  refine va_new (ci := 7) (fs := [.int 0, .int 0, .int 0, .int 0, .int 0, .int 0]) (C := RX7) (T := TX7) (N := 6) hx hb hts (fun w h => List.mem_cons_of_mem _ (jnGA_X7 w h)) tyX7 tyX7_ok hown (hts _ (List.mem_cons_of_mem _ mGA_83)) (hts _ (List.mem_cons_of_mem _ mGA_91)) (hts _ (List.mem_cons_of_mem _ mGA_92)) hK hP hD hS hA rfl dfX7 (Nat.le_of_ble_eq_true rfl) (Nat.le_of_ble_eq_true rfl) dX0_init_71 (fun q_45 H hP hD hS => ?_)
  have hP : va_P (dC, dI) vwCl [(h0, .inr (0, [.int 0, .int 0, .int 0, .int 0, .int 0, .int 0, .int 0, .int 0, .int 0, .int 0, .ref q_1, .ref q_3, .ref q_5])), (q_1, .inl (k_2, 6, .inr (.inr (.inr (.inr f_30))))), (q_3, .inl (k_4, 24, .inr (.inr (.inr (.inr f_43))))), (q_5, .inl (k_6, 8, .inr (.inr (.inr (.inr (fun _ => none)))))), (q_45, .inr (7, [.int 0, .int 0, .int 0, .int 0, .int 0, .int 0]))] H := hP
  have hD : va_D A [(h0, .inr (0, [.int 0, .int 0, .int 0, .int 0, .int 0, .int 0, .int 0, .int 0, .int 0, .int 0, .ref q_1, .ref q_3, .ref q_5])), (q_1, .inl (k_2, 6, .inr (.inr (.inr (.inr f_30))))), (q_3, .inl (k_4, 24, .inr (.inr (.inr (.inr f_43))))), (q_5, .inl (k_6, 8, .inr (.inr (.inr (.inr (fun _ => none)))))), (q_45, .inr (7, [.int 0, .int 0, .int 0, .int 0, .int 0, .int 0]))] := hD
  refine W.widen (k := 13) (n := 74) (Nat.le_of_ble_eq_true rfl) (Nat.le_of_ble_eq_true rfl) ?_
  refine lv_dup hx hb dX0_init_74 rfl ?_
  have hPc := hP.sub (ws' := []) [] rfl
  have hKc := hK.sub (tys' := []) [] rfl
  refine va_callv (va_runIN (As := []) (rest := [.ref q_45, .int 3, .ref q_3]) ⟨hx, hb, hml, hown, hts⟩ (fX7_init l dC dI q_45) (⟨va_cnB 0 hts (gz_gP mGA_93 goodGA) rfl rfl rfl (nzA_X0_30 hz) (hts _ (List.mem_cons_of_mem _ mGA_92)) (by decide +kernel) ⟨Nat.le_of_ble_eq_true rfl, Nat.le_of_ble_eq_true rfl⟩, rfl, (hts _ (List.mem_cons_of_mem _ mGA_94))⟩) ⟨fun a U g mk q => by obtain ⟨q0, qP, qK⟩ := q; exact ⟨q0, qP, va_K.moved (u := U) (U := U.calling g mk a) (Vm.Alike.refl U.vm) qK⟩, fun U hU hW => ⟨rfl, by rw [hU]; exact hPc, va_K.moved hW.alike hKc⟩⟩ rfl rfl hl.1 rfl (lv_room (Nat.le_of_ble_eq_true rfl)) dX0_init_75 ⟨Nat.le_of_ble_eq_true rfl, Nat.le_of_ble_eq_true rfl⟩) hS (fun q _ h => h.elim) (fun q h => h.elim) (fun  u t H1 locs ht hvm hw hB hz1 hk1 hS => ?_)
  have hP := gz_keep hP hk1
  generalize H1 = H at hP hS ⊢
  refine va_astq hx hb hK hP hD hS 2 1 4 7 rfl rfl rfl rfl (by unfold vp_in; decide) dX0_init_78 (fun H locs hP hD hS => ?_)
  have hP : va_P (dC, dI) vwCl [(h0, .inr (0, [.int 0, .int 0, .int 0, .int 0, .int 0, .int 0, .int 0, .int 0, .int 0, .int 0, .ref q_1, .ref q_3, .ref q_5])), (q_1, .inl (k_2, 6, .inr (.inr (.inr (.inr f_30))))), (q_3, .inl (k_4, 24, .inr (.inr (.inr (.inr (va_up f_43 (3 : Int32).toNatClampNeg (some q_45))))))), (q_5, .inl (k_6, 8, .inr (.inr (.inr (.inr (fun _ => none)))))), (q_45, .inr (7, [.int 0, .int 0, .int 0, .int 0, .int 0, .int 0]))] H := hP
  have hD : va_D A [(h0, .inr (0, [.int 0, .int 0, .int 0, .int 0, .int 0, .int 0, .int 0, .int 0, .int 0, .int 0, .ref q_1, .ref q_3, .ref q_5])), (q_1, .inl (k_2, 6, .inr (.inr (.inr (.inr f_30))))), (q_3, .inl (k_4, 24, .inr (.inr (.inr (.inr (va_up f_43 (3 : Int32).toNatClampNeg (some q_45))))))), (q_5, .inl (k_6, 8, .inr (.inr (.inr (.inr (fun _ => none)))))), (q_45, .inr (7, [.int 0, .int 0, .int 0, .int 0, .int 0, .int 0]))] := hD
  generalize va_up f_43 (3 : Int32).toNatClampNeg (some q_45) = f_47 at hP hD
  have hP := hP.sub (ws' := [(h0, .inr (0, [.int 0, .int 0, .int 0, .int 0, .int 0, .int 0, .int 0, .int 0, .int 0, .int 0, .ref q_1, .ref q_3, .ref q_5])), (q_1, .inl (k_2, 6, .inr (.inr (.inr (.inr f_30))))), (q_3, .inl (k_4, 24, .inr (.inr (.inr (.inr f_47))))), (q_5, .inl (k_6, 8, .inr (.inr (.inr (.inr (fun _ => none))))))]) [0, 1, 2, 3] rfl
  have hD := hD.sub (ws' := [(h0, .inr (0, [.int 0, .int 0, .int 0, .int 0, .int 0, .int 0, .int 0, .int 0, .int 0, .int 0, .ref q_1, .ref q_3, .ref q_5])), (q_1, .inl (k_2, 6, .inr (.inr (.inr (.inr f_30))))), (q_3, .inl (k_4, 24, .inr (.inr (.inr (.inr f_47))))), (q_5, .inl (k_6, 8, .inr (.inr (.inr (.inr (fun _ => none))))))]) [0, 1, 2, 3] (by decide) rfl
  refine lv_iinc (v := 4) (lv' := [(1, .int 4), (0, .ref h0)]) hx hb dX0_init_79 hl (k := 0) rfl (by decide) (by decide) rfl (fun ls hl => ?_)
  refine lv_goto (tgt := 60) hx hb dX0_init_82 (by decide) ?_
  refine lv_iload_n hx hb dX0_init_60 rfl (lv_at hl 0 rfl) ?_
  refine lv_bipush (v := 24) hx hb dX0_init_61 (by decide) ?_
  refine lv_icmp_ge (tgt := 85) hx hb dX0_init_63 (by decide) (fun c_48 => absurd c_48 (by decide)) (fun c_48 => ?_)
  refine lv_aload_n hx hb dX0_init_66 rfl (lv_at hl 1 rfl) ?_
  refine va_get (D := (dC, dI)) (ci := 0) (v := .ref q_3) (C := RX0) (T := TX0) (N := 13) hx hb hts (fun w h => List.mem_cons_of_mem _ (jnGA_X0 w h)) hown hK hP 0 rfl rfl 11 (by decide) (hts _ (List.mem_cons_of_mem _ mGA_84)) (fun _ h9 => h9) rfl dX0_init_67 ?_
  refine lv_iload_n hx hb dX0_init_70 rfl (lv_at hl 0 rfl) ?_
  refine va_new (ci := 7) (fs := [.int 0, .int 0, .int 0, .int 0, .int 0, .int 0]) (C := RX7) (T := TX7) (N := 6) hx hb hts (fun w h => List.mem_cons_of_mem _ (jnGA_X7 w h)) tyX7 tyX7_ok hown (hts _ (List.mem_cons_of_mem _ mGA_83)) (hts _ (List.mem_cons_of_mem _ mGA_91)) (hts _ (List.mem_cons_of_mem _ mGA_92)) hK hP hD hS hA rfl dfX7 (Nat.le_of_ble_eq_true rfl) (Nat.le_of_ble_eq_true rfl) dX0_init_71 (fun q_49 H hP hD hS => ?_)
  have hP : va_P (dC, dI) vwCl [(h0, .inr (0, [.int 0, .int 0, .int 0, .int 0, .int 0, .int 0, .int 0, .int 0, .int 0, .int 0, .ref q_1, .ref q_3, .ref q_5])), (q_1, .inl (k_2, 6, .inr (.inr (.inr (.inr f_30))))), (q_3, .inl (k_4, 24, .inr (.inr (.inr (.inr f_47))))), (q_5, .inl (k_6, 8, .inr (.inr (.inr (.inr (fun _ => none)))))), (q_49, .inr (7, [.int 0, .int 0, .int 0, .int 0, .int 0, .int 0]))] H := hP
  have hD : va_D A [(h0, .inr (0, [.int 0, .int 0, .int 0, .int 0, .int 0, .int 0, .int 0, .int 0, .int 0, .int 0, .ref q_1, .ref q_3, .ref q_5])), (q_1, .inl (k_2, 6, .inr (.inr (.inr (.inr f_30))))), (q_3, .inl (k_4, 24, .inr (.inr (.inr (.inr f_47))))), (q_5, .inl (k_6, 8, .inr (.inr (.inr (.inr (fun _ => none)))))), (q_49, .inr (7, [.int 0, .int 0, .int 0, .int 0, .int 0, .int 0]))] := hD
  refine W.widen (k := 14) (n := 80) (Nat.le_of_ble_eq_true rfl) (Nat.le_of_ble_eq_true rfl) ?_
  refine lv_dup hx hb dX0_init_74 rfl ?_
  have hPc := hP.sub (ws' := []) [] rfl
  have hKc := hK.sub (tys' := []) [] rfl
  refine va_callv (va_runIN (As := []) (rest := [.ref q_49, .int 4, .ref q_3]) ⟨hx, hb, hml, hown, hts⟩ (fX7_init l dC dI q_49) (⟨va_cnB 0 hts (gz_gP mGA_93 goodGA) rfl rfl rfl (nzA_X0_30 hz) (hts _ (List.mem_cons_of_mem _ mGA_92)) (by decide +kernel) ⟨Nat.le_of_ble_eq_true rfl, Nat.le_of_ble_eq_true rfl⟩, rfl, (hts _ (List.mem_cons_of_mem _ mGA_94))⟩) ⟨fun a U g mk q => by obtain ⟨q0, qP, qK⟩ := q; exact ⟨q0, qP, va_K.moved (u := U) (U := U.calling g mk a) (Vm.Alike.refl U.vm) qK⟩, fun U hU hW => ⟨rfl, by rw [hU]; exact hPc, va_K.moved hW.alike hKc⟩⟩ rfl rfl hl.1 rfl (lv_room (Nat.le_of_ble_eq_true rfl)) dX0_init_75 ⟨Nat.le_of_ble_eq_true rfl, Nat.le_of_ble_eq_true rfl⟩) hS (fun q _ h => h.elim) (fun q h => h.elim) (fun  u t H1 locs ht hvm hw hB hz1 hk1 hS => ?_)
  have hP := gz_keep hP hk1
  generalize H1 = H at hP hS ⊢
  refine va_astq hx hb hK hP hD hS 2 1 4 7 rfl rfl rfl rfl (by unfold vp_in; decide) dX0_init_78 (fun H locs hP hD hS => ?_)
  have hP : va_P (dC, dI) vwCl [(h0, .inr (0, [.int 0, .int 0, .int 0, .int 0, .int 0, .int 0, .int 0, .int 0, .int 0, .int 0, .ref q_1, .ref q_3, .ref q_5])), (q_1, .inl (k_2, 6, .inr (.inr (.inr (.inr f_30))))), (q_3, .inl (k_4, 24, .inr (.inr (.inr (.inr (va_up f_47 (4 : Int32).toNatClampNeg (some q_49))))))), (q_5, .inl (k_6, 8, .inr (.inr (.inr (.inr (fun _ => none)))))), (q_49, .inr (7, [.int 0, .int 0, .int 0, .int 0, .int 0, .int 0]))] H := hP
  have hD : va_D A [(h0, .inr (0, [.int 0, .int 0, .int 0, .int 0, .int 0, .int 0, .int 0, .int 0, .int 0, .int 0, .ref q_1, .ref q_3, .ref q_5])), (q_1, .inl (k_2, 6, .inr (.inr (.inr (.inr f_30))))), (q_3, .inl (k_4, 24, .inr (.inr (.inr (.inr (va_up f_47 (4 : Int32).toNatClampNeg (some q_49))))))), (q_5, .inl (k_6, 8, .inr (.inr (.inr (.inr (fun _ => none)))))), (q_49, .inr (7, [.int 0, .int 0, .int 0, .int 0, .int 0, .int 0]))] := hD
  generalize va_up f_47 (4 : Int32).toNatClampNeg (some q_49) = f_51 at hP hD
  have hP := hP.sub (ws' := [(h0, .inr (0, [.int 0, .int 0, .int 0, .int 0, .int 0, .int 0, .int 0, .int 0, .int 0, .int 0, .ref q_1, .ref q_3, .ref q_5])), (q_1, .inl (k_2, 6, .inr (.inr (.inr (.inr f_30))))), (q_3, .inl (k_4, 24, .inr (.inr (.inr (.inr f_51))))), (q_5, .inl (k_6, 8, .inr (.inr (.inr (.inr (fun _ => none))))))]) [0, 1, 2, 3] rfl
  have hD := hD.sub (ws' := [(h0, .inr (0, [.int 0, .int 0, .int 0, .int 0, .int 0, .int 0, .int 0, .int 0, .int 0, .int 0, .ref q_1, .ref q_3, .ref q_5])), (q_1, .inl (k_2, 6, .inr (.inr (.inr (.inr f_30))))), (q_3, .inl (k_4, 24, .inr (.inr (.inr (.inr f_51))))), (q_5, .inl (k_6, 8, .inr (.inr (.inr (.inr (fun _ => none))))))]) [0, 1, 2, 3] (by decide) rfl
  refine lv_iinc (v := 5) (lv' := [(1, .int 5), (0, .ref h0)]) hx hb dX0_init_79 hl (k := 0) rfl (by decide) (by decide) rfl (fun ls hl => ?_)
  refine lv_goto (tgt := 60) hx hb dX0_init_82 (by decide) ?_
  refine lv_iload_n hx hb dX0_init_60 rfl (lv_at hl 0 rfl) ?_
  refine lv_bipush (v := 24) hx hb dX0_init_61 (by decide) ?_
  refine lv_icmp_ge (tgt := 85) hx hb dX0_init_63 (by decide) (fun c_52 => absurd c_52 (by decide)) (fun c_52 => ?_)
  refine lv_aload_n hx hb dX0_init_66 rfl (lv_at hl 1 rfl) ?_
  refine va_get (D := (dC, dI)) (ci := 0) (v := .ref q_3) (C := RX0) (T := TX0) (N := 13) hx hb hts (fun w h => List.mem_cons_of_mem _ (jnGA_X0 w h)) hown hK hP 0 rfl rfl 11 (by decide) (hts _ (List.mem_cons_of_mem _ mGA_84)) (fun _ h9 => h9) rfl dX0_init_67 ?_
  refine lv_iload_n hx hb dX0_init_70 rfl (lv_at hl 0 rfl) ?_
  refine va_new (ci := 7) (fs := [.int 0, .int 0, .int 0, .int 0, .int 0, .int 0]) (C := RX7) (T := TX7) (N := 6) hx hb hts (fun w h => List.mem_cons_of_mem _ (jnGA_X7 w h)) tyX7 tyX7_ok hown (hts _ (List.mem_cons_of_mem _ mGA_83)) (hts _ (List.mem_cons_of_mem _ mGA_91)) (hts _ (List.mem_cons_of_mem _ mGA_92)) hK hP hD hS hA rfl dfX7 (Nat.le_of_ble_eq_true rfl) (Nat.le_of_ble_eq_true rfl) dX0_init_71 (fun q_53 H hP hD hS => ?_)
  have hP : va_P (dC, dI) vwCl [(h0, .inr (0, [.int 0, .int 0, .int 0, .int 0, .int 0, .int 0, .int 0, .int 0, .int 0, .int 0, .ref q_1, .ref q_3, .ref q_5])), (q_1, .inl (k_2, 6, .inr (.inr (.inr (.inr f_30))))), (q_3, .inl (k_4, 24, .inr (.inr (.inr (.inr f_51))))), (q_5, .inl (k_6, 8, .inr (.inr (.inr (.inr (fun _ => none)))))), (q_53, .inr (7, [.int 0, .int 0, .int 0, .int 0, .int 0, .int 0]))] H := hP
  have hD : va_D A [(h0, .inr (0, [.int 0, .int 0, .int 0, .int 0, .int 0, .int 0, .int 0, .int 0, .int 0, .int 0, .ref q_1, .ref q_3, .ref q_5])), (q_1, .inl (k_2, 6, .inr (.inr (.inr (.inr f_30))))), (q_3, .inl (k_4, 24, .inr (.inr (.inr (.inr f_51))))), (q_5, .inl (k_6, 8, .inr (.inr (.inr (.inr (fun _ => none)))))), (q_53, .inr (7, [.int 0, .int 0, .int 0, .int 0, .int 0, .int 0]))] := hD
  refine W.widen (k := 15) (n := 86) (Nat.le_of_ble_eq_true rfl) (Nat.le_of_ble_eq_true rfl) ?_
  refine lv_dup hx hb dX0_init_74 rfl ?_
  have hPc := hP.sub (ws' := []) [] rfl
  have hKc := hK.sub (tys' := []) [] rfl
  refine va_callv (va_runIN (As := []) (rest := [.ref q_53, .int 5, .ref q_3]) ⟨hx, hb, hml, hown, hts⟩ (fX7_init l dC dI q_53) (⟨va_cnB 0 hts (gz_gP mGA_93 goodGA) rfl rfl rfl (nzA_X0_30 hz) (hts _ (List.mem_cons_of_mem _ mGA_92)) (by decide +kernel) ⟨Nat.le_of_ble_eq_true rfl, Nat.le_of_ble_eq_true rfl⟩, rfl, (hts _ (List.mem_cons_of_mem _ mGA_94))⟩) ⟨fun a U g mk q => by obtain ⟨q0, qP, qK⟩ := q; exact ⟨q0, qP, va_K.moved (u := U) (U := U.calling g mk a) (Vm.Alike.refl U.vm) qK⟩, fun U hU hW => ⟨rfl, by rw [hU]; exact hPc, va_K.moved hW.alike hKc⟩⟩ rfl rfl hl.1 rfl (lv_room (Nat.le_of_ble_eq_true rfl)) dX0_init_75 ⟨Nat.le_of_ble_eq_true rfl, Nat.le_of_ble_eq_true rfl⟩) hS (fun q _ h => h.elim) (fun q h => h.elim) (fun  u t H1 locs ht hvm hw hB hz1 hk1 hS => ?_)
  have hP := gz_keep hP hk1
  generalize H1 = H at hP hS ⊢
  refine va_astq hx hb hK hP hD hS 2 1 4 7 rfl rfl rfl rfl (by unfold vp_in; decide) dX0_init_78 (fun H locs hP hD hS => ?_)
  have hP : va_P (dC, dI) vwCl [(h0, .inr (0, [.int 0, .int 0, .int 0, .int 0, .int 0, .int 0, .int 0, .int 0, .int 0, .int 0, .ref q_1, .ref q_3, .ref q_5])), (q_1, .inl (k_2, 6, .inr (.inr (.inr (.inr f_30))))), (q_3, .inl (k_4, 24, .inr (.inr (.inr (.inr (va_up f_51 (5 : Int32).toNatClampNeg (some q_53))))))), (q_5, .inl (k_6, 8, .inr (.inr (.inr (.inr (fun _ => none)))))), (q_53, .inr (7, [.int 0, .int 0, .int 0, .int 0, .int 0, .int 0]))] H := hP
  have hD : va_D A [(h0, .inr (0, [.int 0, .int 0, .int 0, .int 0, .int 0, .int 0, .int 0, .int 0, .int 0, .int 0, .ref q_1, .ref q_3, .ref q_5])), (q_1, .inl (k_2, 6, .inr (.inr (.inr (.inr f_30))))), (q_3, .inl (k_4, 24, .inr (.inr (.inr (.inr (va_up f_51 (5 : Int32).toNatClampNeg (some q_53))))))), (q_5, .inl (k_6, 8, .inr (.inr (.inr (.inr (fun _ => none)))))), (q_53, .inr (7, [.int 0, .int 0, .int 0, .int 0, .int 0, .int 0]))] := hD
  generalize va_up f_51 (5 : Int32).toNatClampNeg (some q_53) = f_55 at hP hD
  have hP := hP.sub (ws' := [(h0, .inr (0, [.int 0, .int 0, .int 0, .int 0, .int 0, .int 0, .int 0, .int 0, .int 0, .int 0, .ref q_1, .ref q_3, .ref q_5])), (q_1, .inl (k_2, 6, .inr (.inr (.inr (.inr f_30))))), (q_3, .inl (k_4, 24, .inr (.inr (.inr (.inr f_55))))), (q_5, .inl (k_6, 8, .inr (.inr (.inr (.inr (fun _ => none))))))]) [0, 1, 2, 3] rfl
  have hD := hD.sub (ws' := [(h0, .inr (0, [.int 0, .int 0, .int 0, .int 0, .int 0, .int 0, .int 0, .int 0, .int 0, .int 0, .ref q_1, .ref q_3, .ref q_5])), (q_1, .inl (k_2, 6, .inr (.inr (.inr (.inr f_30))))), (q_3, .inl (k_4, 24, .inr (.inr (.inr (.inr f_55))))), (q_5, .inl (k_6, 8, .inr (.inr (.inr (.inr (fun _ => none))))))]) [0, 1, 2, 3] (by decide) rfl
  refine lv_iinc (v := 6) (lv' := [(1, .int 6), (0, .ref h0)]) hx hb dX0_init_79 hl (k := 0) rfl (by decide) (by decide) rfl (fun ls hl => ?_)
  refine lv_goto (tgt := 60) hx hb dX0_init_82 (by decide) ?_
  refine lv_iload_n hx hb dX0_init_60 rfl (lv_at hl 0 rfl) ?_
  refine lv_bipush (v := 24) hx hb dX0_init_61 (by decide) ?_
  refine lv_icmp_ge (tgt := 85) hx hb dX0_init_63 (by decide) (fun c_56 => absurd c_56 (by decide)) (fun c_56 => ?_)
  refine lv_aload_n hx hb dX0_init_66 rfl (lv_at hl 1 rfl) ?_
  refine va_get (D := (dC, dI)) (ci := 0) (v := .ref q_3) (C := RX0) (T := TX0) (N := 13) hx hb hts (fun w h => List.mem_cons_of_mem _ (jnGA_X0 w h)) hown hK hP 0 rfl rfl 11 (by decide) (hts _ (List.mem_cons_of_mem _ mGA_84)) (fun _ h9 => h9) rfl dX0_init_67 ?_
  refine lv_iload_n hx hb dX0_init_70 rfl (lv_at hl 0 rfl) ?_
  refine va_new (ci := 7) (fs := [.int 0, .int 0, .int 0, .int 0, .int 0, .int 0]) (C := RX7) (T := TX7) (N := 6) hx hb hts (fun w h => List.mem_cons_of_mem _ (jnGA_X7 w h)) tyX7 tyX7_ok hown (hts _ (List.mem_cons_of_mem _ mGA_83)) (hts _ (List.mem_cons_of_mem _ mGA_91)) (hts _ (List.mem_cons_of_mem _ mGA_92)) hK hP hD hS hA rfl dfX7 (Nat.le_of_ble_eq_true rfl) (Nat.le_of_ble_eq_true rfl) dX0_init_71 (fun q_57 H hP hD hS => ?_)
  have hP : va_P (dC, dI) vwCl [(h0, .inr (0, [.int 0, .int 0, .int 0, .int 0, .int 0, .int 0, .int 0, .int 0, .int 0, .int 0, .ref q_1, .ref q_3, .ref q_5])), (q_1, .inl (k_2, 6, .inr (.inr (.inr (.inr f_30))))), (q_3, .inl (k_4, 24, .inr (.inr (.inr (.inr f_55))))), (q_5, .inl (k_6, 8, .inr (.inr (.inr (.inr (fun _ => none)))))), (q_57, .inr (7, [.int 0, .int 0, .int 0, .int 0, .int 0, .int 0]))] H := hP
  have hD : va_D A [(h0, .inr (0, [.int 0, .int 0, .int 0, .int 0, .int 0, .int 0, .int 0, .int 0, .int 0, .int 0, .ref q_1, .ref q_3, .ref q_5])), (q_1, .inl (k_2, 6, .inr (.inr (.inr (.inr f_30))))), (q_3, .inl (k_4, 24, .inr (.inr (.inr (.inr f_55))))), (q_5, .inl (k_6, 8, .inr (.inr (.inr (.inr (fun _ => none)))))), (q_57, .inr (7, [.int 0, .int 0, .int 0, .int 0, .int 0, .int 0]))] := hD
  refine W.widen (k := 16) (n := 92) (Nat.le_of_ble_eq_true rfl) (Nat.le_of_ble_eq_true rfl) ?_
  refine lv_dup hx hb dX0_init_74 rfl ?_
  have hPc := hP.sub (ws' := []) [] rfl
  have hKc := hK.sub (tys' := []) [] rfl
  refine va_callv (va_runIN (As := []) (rest := [.ref q_57, .int 6, .ref q_3]) ⟨hx, hb, hml, hown, hts⟩ (fX7_init l dC dI q_57) (⟨va_cnB 0 hts (gz_gP mGA_93 goodGA) rfl rfl rfl (nzA_X0_30 hz) (hts _ (List.mem_cons_of_mem _ mGA_92)) (by decide +kernel) ⟨Nat.le_of_ble_eq_true rfl, Nat.le_of_ble_eq_true rfl⟩, rfl, (hts _ (List.mem_cons_of_mem _ mGA_94))⟩) ⟨fun a U g mk q => by obtain ⟨q0, qP, qK⟩ := q; exact ⟨q0, qP, va_K.moved (u := U) (U := U.calling g mk a) (Vm.Alike.refl U.vm) qK⟩, fun U hU hW => ⟨rfl, by rw [hU]; exact hPc, va_K.moved hW.alike hKc⟩⟩ rfl rfl hl.1 rfl (lv_room (Nat.le_of_ble_eq_true rfl)) dX0_init_75 ⟨Nat.le_of_ble_eq_true rfl, Nat.le_of_ble_eq_true rfl⟩) hS (fun q _ h => h.elim) (fun q h => h.elim) (fun  u t H1 locs ht hvm hw hB hz1 hk1 hS => ?_)
  have hP := gz_keep hP hk1
  generalize H1 = H at hP hS ⊢
  refine va_astq hx hb hK hP hD hS 2 1 4 7 rfl rfl rfl rfl (by unfold vp_in; decide) dX0_init_78 (fun H locs hP hD hS => ?_)
  have hP : va_P (dC, dI) vwCl [(h0, .inr (0, [.int 0, .int 0, .int 0, .int 0, .int 0, .int 0, .int 0, .int 0, .int 0, .int 0, .ref q_1, .ref q_3, .ref q_5])), (q_1, .inl (k_2, 6, .inr (.inr (.inr (.inr f_30))))), (q_3, .inl (k_4, 24, .inr (.inr (.inr (.inr (va_up f_55 (6 : Int32).toNatClampNeg (some q_57))))))), (q_5, .inl (k_6, 8, .inr (.inr (.inr (.inr (fun _ => none)))))), (q_57, .inr (7, [.int 0, .int 0, .int 0, .int 0, .int 0, .int 0]))] H := hP
  have hD : va_D A [(h0, .inr (0, [.int 0, .int 0, .int 0, .int 0, .int 0, .int 0, .int 0, .int 0, .int 0, .int 0, .ref q_1, .ref q_3, .ref q_5])), (q_1, .inl (k_2, 6, .inr (.inr (.inr (.inr f_30))))), (q_3, .inl (k_4, 24, .inr (.inr (.inr (.inr (va_up f_55 (6 : Int32).toNatClampNeg (some q_57))))))), (q_5, .inl (k_6, 8, .inr (.inr (.inr (.inr (fun _ => none)))))), (q_57, .inr (7, [.int 0, .int 0, .int 0, .int 0, .int 0, .int 0]))] := hD
  generalize va_up f_55 (6 : Int32).toNatClampNeg (some q_57) = f_59 at hP hD
  have hP := hP.sub (ws' := [(h0, .inr (0, [.int 0, .int 0, .int 0, .int 0, .int 0, .int 0, .int 0, .int 0, .int 0, .int 0, .ref q_1, .ref q_3, .ref q_5])), (q_1, .inl (k_2, 6, .inr (.inr (.inr (.inr f_30))))), (q_3, .inl (k_4, 24, .inr (.inr (.inr (.inr f_59))))), (q_5, .inl (k_6, 8, .inr (.inr (.inr (.inr (fun _ => none))))))]) [0, 1, 2, 3] rfl
  have hD := hD.sub (ws' := [(h0, .inr (0, [.int 0, .int 0, .int 0, .int 0, .int 0, .int 0, .int 0, .int 0, .int 0, .int 0, .ref q_1, .ref q_3, .ref q_5])), (q_1, .inl (k_2, 6, .inr (.inr (.inr (.inr f_30))))), (q_3, .inl (k_4, 24, .inr (.inr (.inr (.inr f_59))))), (q_5, .inl (k_6, 8, .inr (.inr (.inr (.inr (fun _ => none))))))]) [0, 1, 2, 3] (by decide) rfl
  refine lv_iinc (v := 7) (lv' := [(1, .int 7), (0, .ref h0)]) hx hb dX0_init_79 hl (k := 0) rfl (by decide) (by decide) rfl (fun ls hl => ?_)
  refine lv_goto (tgt := 60) hx hb dX0_init_82 (by decide) ?_
  refine lv_iload_n hx hb dX0_init_60 rfl (lv_at hl 0 rfl) ?_
  refine lv_bipush (v := 24) hx hb dX0_init_61 (by decide) ?_
  refine lv_icmp_ge (tgt := 85) hx hb dX0_init_63 (by decide) (fun c_60 => absurd c_60 (by decide)) (fun c_60 => ?_)
  refine lv_aload_n hx hb dX0_init_66 rfl (lv_at hl 1 rfl) ?_
  refine va_get (D := (dC, dI)) (ci := 0) (v := .ref q_3) (C := RX0) (T := TX0) (N := 13) hx hb hts (fun w h => List.mem_cons_of_mem _ (jnGA_X0 w h)) hown hK hP 0 rfl rfl 11 (by decide) (hts _ (List.mem_cons_of_mem _ mGA_84)) (fun _ h9 => h9) rfl dX0_init_67 ?_
  refine lv_iload_n hx hb dX0_init_70 rfl (lv_at hl 0 rfl) ?_
  refine va_new (ci := 7) (fs := [.int 0, .int 0, .int 0, .int 0, .int 0, .int 0]) (C := RX7) (T := TX7) (N := 6) hx hb hts (fun w h => List.mem_cons_of_mem _ (jnGA_X7 w h)) tyX7 tyX7_ok hown (hts _ (List.mem_cons_of_mem _ mGA_83)) (hts _ (List.mem_cons_of_mem _ mGA_91)) (hts _ (List.mem_cons_of_mem _ mGA_92)) hK hP hD hS hA rfl dfX7 (Nat.le_of_ble_eq_true rfl) (Nat.le_of_ble_eq_true rfl) dX0_init_71 (fun q_61 H hP hD hS => ?_)
  have hP : va_P (dC, dI) vwCl [(h0, .inr (0, [.int 0, .int 0, .int 0, .int 0, .int 0, .int 0, .int 0, .int 0, .int 0, .int 0, .ref q_1, .ref q_3, .ref q_5])), (q_1, .inl (k_2, 6, .inr (.inr (.inr (.inr f_30))))), (q_3, .inl (k_4, 24, .inr (.inr (.inr (.inr f_59))))), (q_5, .inl (k_6, 8, .inr (.inr (.inr (.inr (fun _ => none)))))), (q_61, .inr (7, [.int 0, .int 0, .int 0, .int 0, .int 0, .int 0]))] H := hP
  have hD : va_D A [(h0, .inr (0, [.int 0, .int 0, .int 0, .int 0, .int 0, .int 0, .int 0, .int 0, .int 0, .int 0, .ref q_1, .ref q_3, .ref q_5])), (q_1, .inl (k_2, 6, .inr (.inr (.inr (.inr f_30))))), (q_3, .inl (k_4, 24, .inr (.inr (.inr (.inr f_59))))), (q_5, .inl (k_6, 8, .inr (.inr (.inr (.inr (fun _ => none)))))), (q_61, .inr (7, [.int 0, .int 0, .int 0, .int 0, .int 0, .int 0]))] := hD
  refine W.widen (k := 17) (n := 98) (Nat.le_of_ble_eq_true rfl) (Nat.le_of_ble_eq_true rfl) ?_
  refine lv_dup hx hb dX0_init_74 rfl ?_
  have hPc := hP.sub (ws' := []) [] rfl
  have hKc := hK.sub (tys' := []) [] rfl
  refine va_callv (va_runIN (As := []) (rest := [.ref q_61, .int 7, .ref q_3]) ⟨hx, hb, hml, hown, hts⟩ (fX7_init l dC dI q_61) (⟨va_cnB 0 hts (gz_gP mGA_93 goodGA) rfl rfl rfl (nzA_X0_30 hz) (hts _ (List.mem_cons_of_mem _ mGA_92)) (by decide +kernel) ⟨Nat.le_of_ble_eq_true rfl, Nat.le_of_ble_eq_true rfl⟩, rfl, (hts _ (List.mem_cons_of_mem _ mGA_94))⟩) ⟨fun a U g mk q => by obtain ⟨q0, qP, qK⟩ := q; exact ⟨q0, qP, va_K.moved (u := U) (U := U.calling g mk a) (Vm.Alike.refl U.vm) qK⟩, fun U hU hW => ⟨rfl, by rw [hU]; exact hPc, va_K.moved hW.alike hKc⟩⟩ rfl rfl hl.1 rfl (lv_room (Nat.le_of_ble_eq_true rfl)) dX0_init_75 ⟨Nat.le_of_ble_eq_true rfl, Nat.le_of_ble_eq_true rfl⟩) hS (fun q _ h => h.elim) (fun q h => h.elim) (fun  u t H1 locs ht hvm hw hB hz1 hk1 hS => ?_)
  have hP := gz_keep hP hk1
  generalize H1 = H at hP hS ⊢
  refine va_astq hx hb hK hP hD hS 2 1 4 7 rfl rfl rfl rfl (by unfold vp_in; decide) dX0_init_78 (fun H locs hP hD hS => ?_)
  have hP : va_P (dC, dI) vwCl [(h0, .inr (0, [.int 0, .int 0, .int 0, .int 0, .int 0, .int 0, .int 0, .int 0, .int 0, .int 0, .ref q_1, .ref q_3, .ref q_5])), (q_1, .inl (k_2, 6, .inr (.inr (.inr (.inr f_30))))), (q_3, .inl (k_4, 24, .inr (.inr (.inr (.inr (va_up f_59 (7 : Int32).toNatClampNeg (some q_61))))))), (q_5, .inl (k_6, 8, .inr (.inr (.inr (.inr (fun _ => none)))))), (q_61, .inr (7, [.int 0, .int 0, .int 0, .int 0, .int 0, .int 0]))] H := hP
  have hD : va_D A [(h0, .inr (0, [.int 0, .int 0, .int 0, .int 0, .int 0, .int 0, .int 0, .int 0, .int 0, .int 0, .ref q_1, .ref q_3, .ref q_5])), (q_1, .inl (k_2, 6, .inr (.inr (.inr (.inr f_30))))), (q_3, .inl (k_4, 24, .inr (.inr (.inr (.inr (va_up f_59 (7 : Int32).toNatClampNeg (some q_61))))))), (q_5, .inl (k_6, 8, .inr (.inr (.inr (.inr (fun _ => none)))))), (q_61, .inr (7, [.int 0, .int 0, .int 0, .int 0, .int 0, .int 0]))] := hD
  generalize va_up f_59 (7 : Int32).toNatClampNeg (some q_61) = f_63 at hP hD
  have hP := hP.sub (ws' := [(h0, .inr (0, [.int 0, .int 0, .int 0, .int 0, .int 0, .int 0, .int 0, .int 0, .int 0, .int 0, .ref q_1, .ref q_3, .ref q_5])), (q_1, .inl (k_2, 6, .inr (.inr (.inr (.inr f_30))))), (q_3, .inl (k_4, 24, .inr (.inr (.inr (.inr f_63))))), (q_5, .inl (k_6, 8, .inr (.inr (.inr (.inr (fun _ => none))))))]) [0, 1, 2, 3] rfl
  have hD := hD.sub (ws' := [(h0, .inr (0, [.int 0, .int 0, .int 0, .int 0, .int 0, .int 0, .int 0, .int 0, .int 0, .int 0, .ref q_1, .ref q_3, .ref q_5])), (q_1, .inl (k_2, 6, .inr (.inr (.inr (.inr f_30))))), (q_3, .inl (k_4, 24, .inr (.inr (.inr (.inr f_63))))), (q_5, .inl (k_6, 8, .inr (.inr (.inr (.inr (fun _ => none))))))]) [0, 1, 2, 3] (by decide) rfl
  refine lv_iinc (v := 8) (lv' := [(1, .int 8), (0, .ref h0)]) hx hb dX0_init_79 hl (k := 0) rfl (by decide) (by decide) rfl (fun ls hl => ?_)
  refine lv_goto (tgt := 60) hx hb dX0_init_82 (by decide) ?_
  refine lv_iload_n hx hb dX0_init_60 rfl (lv_at hl 0 rfl) ?_
  refine lv_bipush (v := 24) hx hb dX0_init_61 (by decide) ?_
  refine lv_icmp_ge (tgt := 85) hx hb dX0_init_63 (by decide) (fun c_64 => absurd c_64 (by decide)) (fun c_64 => ?_)
  refine lv_aload_n hx hb dX0_init_66 rfl (lv_at hl 1 rfl) ?_
  refine va_get (D := (dC, dI)) (ci := 0) (v := .ref q_3) (C := RX0) (T := TX0) (N := 13) hx hb hts (fun w h => List.mem_cons_of_mem _ (jnGA_X0 w h)) hown hK hP 0 rfl rfl 11 (by decide) (hts _ (List.mem_cons_of_mem _ mGA_84)) (fun _ h9 => h9) rfl dX0_init_67 ?_
  refine lv_iload_n hx hb dX0_init_70 rfl (lv_at hl 0 rfl) ?_
  refine va_new (ci := 7) (fs := [.int 0, .int 0, .int 0, .int 0, .int 0, .int 0]) (C := RX7) (T := TX7) (N := 6) hx hb hts (fun w h => List.mem_cons_of_mem _ (jnGA_X7 w h)) tyX7 tyX7_ok hown (hts _ (List.mem_cons_of_mem _ mGA_83)) (hts _ (List.mem_cons_of_mem _ mGA_91)) (hts _ (List.mem_cons_of_mem _ mGA_92)) hK hP hD hS hA rfl dfX7 (Nat.le_of_ble_eq_true rfl) (Nat.le_of_ble_eq_true rfl) dX0_init_71 (fun q_65 H hP hD hS => ?_)
  have hP : va_P (dC, dI) vwCl [(h0, .inr (0, [.int 0, .int 0, .int 0, .int 0, .int 0, .int 0, .int 0, .int 0, .int 0, .int 0, .ref q_1, .ref q_3, .ref q_5])), (q_1, .inl (k_2, 6, .inr (.inr (.inr (.inr f_30))))), (q_3, .inl (k_4, 24, .inr (.inr (.inr (.inr f_63))))), (q_5, .inl (k_6, 8, .inr (.inr (.inr (.inr (fun _ => none)))))), (q_65, .inr (7, [.int 0, .int 0, .int 0, .int 0, .int 0, .int 0]))] H := hP
  have hD : va_D A [(h0, .inr (0, [.int 0, .int 0, .int 0, .int 0, .int 0, .int 0, .int 0, .int 0, .int 0, .int 0, .ref q_1, .ref q_3, .ref q_5])), (q_1, .inl (k_2, 6, .inr (.inr (.inr (.inr f_30))))), (q_3, .inl (k_4, 24, .inr (.inr (.inr (.inr f_63))))), (q_5, .inl (k_6, 8, .inr (.inr (.inr (.inr (fun _ => none)))))), (q_65, .inr (7, [.int 0, .int 0, .int 0, .int 0, .int 0, .int 0]))] := hD
  refine W.widen (k := 18) (n := 104) (Nat.le_of_ble_eq_true rfl) (Nat.le_of_ble_eq_true rfl) ?_
  refine lv_dup hx hb dX0_init_74 rfl ?_
  have hPc := hP.sub (ws' := []) [] rfl
  have hKc := hK.sub (tys' := []) [] rfl
  refine va_callv (va_runIN (As := []) (rest := [.ref q_65, .int 8, .ref q_3]) ⟨hx, hb, hml, hown, hts⟩ (fX7_init l dC dI q_65) (⟨va_cnB 0 hts (gz_gP mGA_93 goodGA) rfl rfl rfl (nzA_X0_30 hz) (hts _ (List.mem_cons_of_mem _ mGA_92)) (by decide +kernel) ⟨Nat.le_of_ble_eq_true rfl, Nat.le_of_ble_eq_true rfl⟩, rfl, (hts _ (List.mem_cons_of_mem _ mGA_94))⟩) ⟨fun a U g mk q => by obtain ⟨q0, qP, qK⟩ := q; exact ⟨q0, qP, va_K.moved (u := U) (U := U.calling g mk a) (Vm.Alike.refl U.vm) qK⟩, fun U hU hW => ⟨rfl, by rw [hU]; exact hPc, va_K.moved hW.alike hKc⟩⟩ rfl rfl hl.1 rfl (lv_room (Nat.le_of_ble_eq_true rfl)) dX0_init_75 ⟨Nat.le_of_ble_eq_true rfl, Nat.le_of_ble_eq_true rfl⟩) hS (fun q _ h => h.elim) (fun q h => h.elim) (fun  u t H1 locs ht hvm hw hB hz1 hk1 hS => ?_)
  have hP := gz_keep hP hk1
  generalize H1 = H at hP hS ⊢
  refine va_astq hx hb hK hP hD hS 2 1 4 7 rfl rfl rfl rfl (by unfold vp_in; decide) dX0_init_78 (fun H locs hP hD hS => ?_)
  have hP : va_P (dC, dI) vwCl [(h0, .inr (0, [.int 0, .int 0, .int 0, .int 0, .int 0, .int 0, .int 0, .int 0, .int 0, .int 0, .ref q_1, .ref q_3, .ref q_5])), (q_1, .inl (k_2, 6, .inr (.inr (.inr (.inr f_30))))), (q_3, .inl (k_4, 24, .inr (.inr (.inr (.inr (va_up f_63 (8 : Int32).toNatClampNeg (some q_65))))))), (q_5, .inl (k_6, 8, .inr (.inr (.inr (.inr (fun _ => none)))))), (q_65, .inr (7, [.int 0, .int 0, .int 0, .int 0, .int 0, .int 0]))] H := hP
  have hD : va_D A [(h0, .inr (0, [.int 0, .int 0, .int 0, .int 0, .int 0, .int 0, .int 0, .int 0, .int 0, .int 0, .ref q_1, .ref q_3, .ref q_5])), (q_1, .inl (k_2, 6, .inr (.inr (.inr (.inr f_30))))), (q_3, .inl (k_4, 24, .inr (.inr (.inr (.inr (va_up f_63 (8 : Int32).toNatClampNeg (some q_65))))))), (q_5, .inl (k_6, 8, .inr (.inr (.inr (.inr (fun _ => none)))))), (q_65, .inr (7, [.int 0, .int 0, .int 0, .int 0, .int 0, .int 0]))] := hD
  generalize va_up f_63 (8 : Int32).toNatClampNeg (some q_65) = f_67 at hP hD
  have hP := hP.sub (ws' := [(h0, .inr (0, [.int 0, .int 0, .int 0, .int 0, .int 0, .int 0, .int 0, .int 0, .int 0, .int 0, .ref q_1, .ref q_3, .ref q_5])), (q_1, .inl (k_2, 6, .inr (.inr (.inr (.inr f_30))))), (q_3, .inl (k_4, 24, .inr (.inr (.inr (.inr f_67))))), (q_5, .inl (k_6, 8, .inr (.inr (.inr (.inr (fun _ => none))))))]) [0, 1, 2, 3] rfl
  have hD := hD.sub (ws' := [(h0, .inr (0, [.int 0, .int 0, .int 0, .int 0, .int 0, .int 0, .int 0, .int 0, .int 0, .int 0, .ref q_1, .ref q_3, .ref q_5])), (q_1, .inl (k_2, 6, .inr (.inr (.inr (.inr f_30))))), (q_3, .inl (k_4, 24, .inr (.inr (.inr (.inr f_67))))), (q_5, .inl (k_6, 8, .inr (.inr (.inr (.inr (fun _ => none))))))]) [0, 1, 2, 3] (by decide) rfl
  refine lv_iinc (v := 9) (lv' := [(1, .int 9), (0, .ref h0)]) hx hb dX0_init_79 hl (k := 0) rfl (by decide) (by decide) rfl (fun ls hl => ?_)
  refine lv_goto (tgt := 60) hx hb dX0_init_82 (by decide) ?_
  refine lv_iload_n hx hb dX0_init_60 rfl (lv_at hl 0 rfl) ?_
  refine lv_bipush (v := 24) hx hb dX0_init_61 (by decide) ?_
  refine lv_icmp_ge (tgt := 85) hx hb dX0_init_63 (by decide) (fun c_68 => absurd c_68 (by decide)) (fun c_68 => ?_)
  refine lv_aload_n hx hb dX0_init_66 rfl (lv_at hl 1 rfl) ?_
  refine va_get (D := (dC, dI)) (ci := 0) (v := .ref q_3) (C := RX0) (T := TX0) (N := 13) hx hb hts (fun w h => List.mem_cons_of_mem _ (jnGA_X0 w h)) hown hK hP 0 rfl rfl 11 (by decide) (hts _ (List.mem_cons_of_mem _ mGA_84)) (fun _ h9 => h9) rfl dX0_init_67 ?_
  refine lv_iload_n hx hb dX0_init_70 rfl (lv_at hl 0 rfl) ?_
  refine va_new (ci := 7) (fs := [.int 0, .int 0, .int 0, .int 0, .int 0, .int 0]) (C := RX7) (T := TX7) (N := 6) hx hb hts (fun w h => List.mem_cons_of_mem _ (jnGA_X7 w h)) tyX7 tyX7_ok hown (hts _ (List.mem_cons_of_mem _ mGA_83)) (hts _ (List.mem_cons_of_mem _ mGA_91)) (hts _ (List.mem_cons_of_mem _ mGA_92)) hK hP hD hS hA rfl dfX7 (Nat.le_of_ble_eq_true rfl) (Nat.le_of_ble_eq_true rfl) dX0_init_71 (fun q_69 H hP hD hS => ?_)
  have hP : va_P (dC, dI) vwCl [(h0, .inr (0, [.int 0, .int 0, .int 0, .int 0, .int 0, .int 0, .int 0, .int 0, .int 0, .int 0, .ref q_1, .ref q_3, .ref q_5])), (q_1, .inl (k_2, 6, .inr (.inr (.inr (.inr f_30))))), (q_3, .inl (k_4, 24, .inr (.inr (.inr (.inr f_67))))), (q_5, .inl (k_6, 8, .inr (.inr (.inr (.inr (fun _ => none)))))), (q_69, .inr (7, [.int 0, .int 0, .int 0, .int 0, .int 0, .int 0]))] H := hP
  have hD : va_D A [(h0, .inr (0, [.int 0, .int 0, .int 0, .int 0, .int 0, .int 0, .int 0, .int 0, .int 0, .int 0, .ref q_1, .ref q_3, .ref q_5])), (q_1, .inl (k_2, 6, .inr (.inr (.inr (.inr f_30))))), (q_3, .inl (k_4, 24, .inr (.inr (.inr (.inr f_67))))), (q_5, .inl (k_6, 8, .inr (.inr (.inr (.inr (fun _ => none)))))), (q_69, .inr (7, [.int 0, .int 0, .int 0, .int 0, .int 0, .int 0]))] := hD
  refine W.widen (k := 19) (n := 110) (Nat.le_of_ble_eq_true rfl) (Nat.le_of_ble_eq_true rfl) ?_
  refine lv_dup hx hb dX0_init_74 rfl ?_
  have hPc := hP.sub (ws' := []) [] rfl
  have hKc := hK.sub (tys' := []) [] rfl
  refine va_callv (va_runIN (As := []) (rest := [.ref q_69, .int 9, .ref q_3]) ⟨hx, hb, hml, hown, hts⟩ (fX7_init l dC dI q_69) (⟨va_cnB 0 hts (gz_gP mGA_93 goodGA) rfl rfl rfl (nzA_X0_30 hz) (hts _ (List.mem_cons_of_mem _ mGA_92)) (by decide +kernel) ⟨Nat.le_of_ble_eq_true rfl, Nat.le_of_ble_eq_true rfl⟩, rfl, (hts _ (List.mem_cons_of_mem _ mGA_94))⟩) ⟨fun a U g mk q => by obtain ⟨q0, qP, qK⟩ := q; exact ⟨q0, qP, va_K.moved (u := U) (U := U.calling g mk a) (Vm.Alike.refl U.vm) qK⟩, fun U hU hW => ⟨rfl, by rw [hU]; exact hPc, va_K.moved hW.alike hKc⟩⟩ rfl rfl hl.1 rfl (lv_room (Nat.le_of_ble_eq_true rfl)) dX0_init_75 ⟨Nat.le_of_ble_eq_true rfl, Nat.le_of_ble_eq_true rfl⟩) hS (fun q _ h => h.elim) (fun q h => h.elim) (fun  u t H1 locs ht hvm hw hB hz1 hk1 hS => ?_)
  have hP := gz_keep hP hk1
  generalize H1 = H at hP hS ⊢
  refine va_astq hx hb hK hP hD hS 2 1 4 7 rfl rfl rfl rfl (by unfold vp_in; decide) dX0_init_78 (fun H locs hP hD hS => ?_)
  have hP : va_P (dC, dI) vwCl [(h0, .inr (0, [.int 0, .int 0, .int 0, .int 0, .int 0, .int 0, .int 0, .int 0, .int 0, .int 0, .ref q_1, .ref q_3, .ref q_5])), (q_1, .inl (k_2, 6, .inr (.inr (.inr (.inr f_30))))), (q_3, .inl (k_4, 24, .inr (.inr (.inr (.inr (va_up f_67 (9 : Int32).toNatClampNeg (some q_69))))))), (q_5, .inl (k_6, 8, .inr (.inr (.inr (.inr (fun _ => none)))))), (q_69, .inr (7, [.int 0, .int 0, .int 0, .int 0, .int 0, .int 0]))] H := hP
  have hD : va_D A [(h0, .inr (0, [.int 0, .int 0, .int 0, .int 0, .int 0, .int 0, .int 0, .int 0, .int 0, .int 0, .ref q_1, .ref q_3, .ref q_5])), (q_1, .inl (k_2, 6, .inr (.inr (.inr (.inr f_30))))), (q_3, .inl (k_4, 24, .inr (.inr (.inr (.inr (va_up f_67 (9 : Int32).toNatClampNeg (some q_69))))))), (q_5, .inl (k_6, 8, .inr (.inr (.inr (.inr (fun _ => none)))))), (q_69, .inr (7, [.int 0, .int 0, .int 0, .int 0, .int 0, .int 0]))] := hD
  generalize va_up f_67 (9 : Int32).toNatClampNeg (some q_69) = f_71 at hP hD
  have hP := hP.sub (ws' := [(h0, .inr (0, [.int 0, .int 0, .int 0, .int 0, .int 0, .int 0, .int 0, .int 0, .int 0, .int 0, .ref q_1, .ref q_3, .ref q_5])), (q_1, .inl (k_2, 6, .inr (.inr (.inr (.inr f_30))))), (q_3, .inl (k_4, 24, .inr (.inr (.inr (.inr f_71))))), (q_5, .inl (k_6, 8, .inr (.inr (.inr (.inr (fun _ => none))))))]) [0, 1, 2, 3] rfl
  have hD := hD.sub (ws' := [(h0, .inr (0, [.int 0, .int 0, .int 0, .int 0, .int 0, .int 0, .int 0, .int 0, .int 0, .int 0, .ref q_1, .ref q_3, .ref q_5])), (q_1, .inl (k_2, 6, .inr (.inr (.inr (.inr f_30))))), (q_3, .inl (k_4, 24, .inr (.inr (.inr (.inr f_71))))), (q_5, .inl (k_6, 8, .inr (.inr (.inr (.inr (fun _ => none))))))]) [0, 1, 2, 3] (by decide) rfl
  refine lv_iinc (v := 10) (lv' := [(1, .int 10), (0, .ref h0)]) hx hb dX0_init_79 hl (k := 0) rfl (by decide) (by decide) rfl (fun ls hl => ?_)
  refine lv_goto (tgt := 60) hx hb dX0_init_82 (by decide) ?_
  refine lv_iload_n hx hb dX0_init_60 rfl (lv_at hl 0 rfl) ?_
  refine lv_bipush (v := 24) hx hb dX0_init_61 (by decide) ?_
  refine lv_icmp_ge (tgt := 85) hx hb dX0_init_63 (by decide) (fun c_72 => absurd c_72 (by decide)) (fun c_72 => ?_)
  refine lv_aload_n hx hb dX0_init_66 rfl (lv_at hl 1 rfl) ?_
  refine va_get (D := (dC, dI)) (ci := 0) (v := .ref q_3) (C := RX0) (T := TX0) (N := 13) hx hb hts (fun w h => List.mem_cons_of_mem _ (jnGA_X0 w h)) hown hK hP 0 rfl rfl 11 (by decide) (hts _ (List.mem_cons_of_mem _ mGA_84)) (fun _ h9 => h9) rfl dX0_init_67 ?_
  refine lv_iload_n hx hb dX0_init_70 rfl (lv_at hl 0 rfl) ?_
  refine va_new (ci := 7) (fs := [.int 0, .int 0, .int 0, .int 0, .int 0, .int 0]) (C := RX7) (T := TX7) (N := 6) hx hb hts (fun w h => List.mem_cons_of_mem _ (jnGA_X7 w h)) tyX7 tyX7_ok hown (hts _ (List.mem_cons_of_mem _ mGA_83)) (hts _ (List.mem_cons_of_mem _ mGA_91)) (hts _ (List.mem_cons_of_mem _ mGA_92)) hK hP hD hS hA rfl dfX7 (Nat.le_of_ble_eq_true rfl) (Nat.le_of_ble_eq_true rfl) dX0_init_71 (fun q_73 H hP hD hS => ?_)
  have hP : va_P (dC, dI) vwCl [(h0, .inr (0, [.int 0, .int 0, .int 0, .int 0, .int 0, .int 0, .int 0, .int 0, .int 0, .int 0, .ref q_1, .ref q_3, .ref q_5])), (q_1, .inl (k_2, 6, .inr (.inr (.inr (.inr f_30))))), (q_3, .inl (k_4, 24, .inr (.inr (.inr (.inr f_71))))), (q_5, .inl (k_6, 8, .inr (.inr (.inr (.inr (fun _ => none)))))), (q_73, .inr (7, [.int 0, .int 0, .int 0, .int 0, .int 0, .int 0]))] H := hP
  have hD : va_D A [(h0, .inr (0, [.int 0, .int 0, .int 0, .int 0, .int 0, .int 0, .int 0, .int 0, .int 0, .int 0, .ref q_1, .ref q_3, .ref q_5])), (q_1, .inl (k_2, 6, .inr (.inr (.inr (.inr f_30))))), (q_3, .inl (k_4, 24, .inr (.inr (.inr (.inr f_71))))), (q_5, .inl (k_6, 8, .inr (.inr (.inr (.inr (fun _ => none)))))), (q_73, .inr (7, [.int 0, .int 0, .int 0, .int 0, .int 0, .int 0]))] := hD
  refine W.widen (k := 20) (n := 116) (Nat.le_of_ble_eq_true rfl) (Nat.le_of_ble_eq_true rfl) ?_
  refine lv_dup hx hb dX0_init_74 rfl ?_
  have hPc := hP.sub (ws' := []) [] rfl
  have hKc := hK.sub (tys' := []) [] rfl
  refine va_callv (va_runIN (As := []) (rest := [.ref q_73, .int 10, .ref q_3]) ⟨hx, hb, hml, hown, hts⟩ (fX7_init l dC dI q_73) (⟨va_cnB 0 hts (gz_gP mGA_93 goodGA) rfl rfl rfl (nzA_X0_30 hz) (hts _ (List.mem_cons_of_mem _ mGA_92)) (by decide +kernel) ⟨Nat.le_of_ble_eq_true rfl, Nat.le_of_ble_eq_true rfl⟩, rfl, (hts _ (List.mem_cons_of_mem _ mGA_94))⟩) ⟨fun a U g mk q => by obtain ⟨q0, qP, qK⟩ := q; exact ⟨q0, qP, va_K.moved (u := U) (U := U.calling g mk a) (Vm.Alike.refl U.vm) qK⟩, fun U hU hW => ⟨rfl, by rw [hU]; exact hPc, va_K.moved hW.alike hKc⟩⟩ rfl rfl hl.1 rfl (lv_room (Nat.le_of_ble_eq_true rfl)) dX0_init_75 ⟨Nat.le_of_ble_eq_true rfl, Nat.le_of_ble_eq_true rfl⟩) hS (fun q _ h => h.elim) (fun q h => h.elim) (fun  u t H1 locs ht hvm hw hB hz1 hk1 hS => ?_)
  have hP := gz_keep hP hk1
  generalize H1 = H at hP hS ⊢
  refine va_astq hx hb hK hP hD hS 2 1 4 7 rfl rfl rfl rfl (by unfold vp_in; decide) dX0_init_78 (fun H locs hP hD hS => ?_)
  have hP : va_P (dC, dI) vwCl [(h0, .inr (0, [.int 0, .int 0, .int 0, .int 0, .int 0, .int 0, .int 0, .int 0, .int 0, .int 0, .ref q_1, .ref q_3, .ref q_5])), (q_1, .inl (k_2, 6, .inr (.inr (.inr (.inr f_30))))), (q_3, .inl (k_4, 24, .inr (.inr (.inr (.inr (va_up f_71 (10 : Int32).toNatClampNeg (some q_73))))))), (q_5, .inl (k_6, 8, .inr (.inr (.inr (.inr (fun _ => none)))))), (q_73, .inr (7, [.int 0, .int 0, .int 0, .int 0, .int 0, .int 0]))] H := hP
  have hD : va_D A [(h0, .inr (0, [.int 0, .int 0, .int 0, .int 0, .int 0, .int 0, .int 0, .int 0, .int 0, .int 0, .ref q_1, .ref q_3, .ref q_5])), (q_1, .inl (k_2, 6, .inr (.inr (.inr (.inr f_30))))), (q_3, .inl (k_4, 24, .inr (.inr (.inr (.inr (va_up f_71 (10 : Int32).toNatClampNeg (some q_73))))))), (q_5, .inl (k_6, 8, .inr (.inr (.inr (.inr (fun _ => none)))))), (q_73, .inr (7, [.int 0, .int 0, .int 0, .int 0, .int 0, .int 0]))] := hD
  generalize va_up f_71 (10 : Int32).toNatClampNeg (some q_73) = f_75 at hP hD
  have hP := hP.sub (ws' := [(h0, .inr (0, [.int 0, .int 0, .int 0, .int 0, .int 0, .int 0, .int 0, .int 0, .int 0, .int 0, .ref q_1, .ref q_3, .ref q_5])), (q_1, .inl (k_2, 6, .inr (.inr (.inr (.inr f_30))))), (q_3, .inl (k_4, 24, .inr (.inr (.inr (.inr f_75))))), (q_5, .inl (k_6, 8, .inr (.inr (.inr (.inr (fun _ => none))))))]) [0, 1, 2, 3] rfl
  have hD := hD.sub (ws' := [(h0, .inr (0, [.int 0, .int 0, .int 0, .int 0, .int 0, .int 0, .int 0, .int 0, .int 0, .int 0, .ref q_1, .ref q_3, .ref q_5])), (q_1, .inl (k_2, 6, .inr (.inr (.inr (.inr f_30))))), (q_3, .inl (k_4, 24, .inr (.inr (.inr (.inr f_75))))), (q_5, .inl (k_6, 8, .inr (.inr (.inr (.inr (fun _ => none))))))]) [0, 1, 2, 3] (by decide) rfl
  refine lv_iinc (v := 11) (lv' := [(1, .int 11), (0, .ref h0)]) hx hb dX0_init_79 hl (k := 0) rfl (by decide) (by decide) rfl (fun ls hl => ?_)
  refine lv_goto (tgt := 60) hx hb dX0_init_82 (by decide) ?_
  refine lv_iload_n hx hb dX0_init_60 rfl (lv_at hl 0 rfl) ?_
  refine lv_bipush (v := 24) hx hb dX0_init_61 (by decide) ?_
  refine lv_icmp_ge (tgt := 85) hx hb dX0_init_63 (by decide) (fun c_76 => absurd c_76 (by decide)) (fun c_76 => ?_)
  refine lv_aload_n hx hb dX0_init_66 rfl (lv_at hl 1 rfl) ?_
  refine va_get (D := (dC, dI)) (ci := 0) (v := .ref q_3) (C := RX0) (T := TX0) (N := 13) hx hb hts (fun w h => List.mem_cons_of_mem _ (jnGA_X0 w h)) hown hK hP 0 rfl rfl 11 (by decide) (hts _ (List.mem_cons_of_mem _ mGA_84)) (fun _ h9 => h9) rfl dX0_init_67 ?_
  refine lv_iload_n hx hb dX0_init_70 rfl (lv_at hl 0 rfl) ?_
  refine va_new (ci := 7) (fs := [.int 0, .int 0, .int 0, .int 0, .int 0, .int 0]) (C := RX7) (T := TX7) (N := 6) hx hb hts (fun w h => List.mem_cons_of_mem _ (jnGA_X7 w h)) tyX7 tyX7_ok hown (hts _ (List.mem_cons_of_mem _ mGA_83)) (hts _ (List.mem_cons_of_mem _ mGA_91)) (hts _ (List.mem_cons_of_mem _ mGA_92)) hK hP hD hS hA rfl dfX7 (Nat.le_of_ble_eq_true rfl) (Nat.le_of_ble_eq_true rfl) dX0_init_71 (fun q_77 H hP hD hS => ?_)
  have hP : va_P (dC, dI) vwCl [(h0, .inr (0, [.int 0, .int 0, .int 0, .int 0, .int 0, .int 0, .int 0, .int 0, .int 0, .int 0, .ref q_1, .ref q_3, .ref q_5])), (q_1, .inl (k_2, 6, .inr (.inr (.inr (.inr f_30))))), (q_3, .inl (k_4, 24, .inr (.inr (.inr (.inr f_75))))), (q_5, .inl (k_6, 8, .inr (.inr (.inr (.inr (fun _ => none)))))), (q_77, .inr (7, [.int 0, .int 0, .int 0, .int 0, .int 0, .int 0]))] H := hP
  have hD : va_D A [(h0, .inr (0, [.int 0, .int 0, .int 0, .int 0, .int 0, .int 0, .int 0, .int 0, .int 0, .int 0, .ref q_1, .ref q_3, .ref q_5])), (q_1, .inl (k_2, 6, .inr (.inr (.inr (.inr f_30))))), (q_3, .inl (k_4, 24, .inr (.inr (.inr (.inr f_75))))), (q_5, .inl (k_6, 8, .inr (.inr (.inr (.inr (fun _ => none)))))), (q_77, .inr (7, [.int 0, .int 0, .int 0, .int 0, .int 0, .int 0]))] := hD
  refine W.widen (k := 21) (n := 122) (Nat.le_of_ble_eq_true rfl) (Nat.le_of_ble_eq_true rfl) ?_
  refine lv_dup hx hb dX0_init_74 rfl ?_
  have hPc := hP.sub (ws' := []) [] rfl
  have hKc := hK.sub (tys' := []) [] rfl
  refine va_callv (va_runIN (As := []) (rest := [.ref q_77, .int 11, .ref q_3]) ⟨hx, hb, hml, hown, hts⟩ (fX7_init l dC dI q_77) (⟨va_cnB 0 hts (gz_gP mGA_93 goodGA) rfl rfl rfl (nzA_X0_30 hz) (hts _ (List.mem_cons_of_mem _ mGA_92)) (by decide +kernel) ⟨Nat.le_of_ble_eq_true rfl, Nat.le_of_ble_eq_true rfl⟩, rfl, (hts _ (List.mem_cons_of_mem _ mGA_94))⟩) ⟨fun a U g mk q => by obtain ⟨q0, qP, qK⟩ := q; exact ⟨q0, qP, va_K.moved (u := U) (U := U.calling g mk a) (Vm.Alike.refl U.vm) qK⟩, fun U hU hW => ⟨rfl, by rw [hU]; exact hPc, va_K.moved hW.alike hKc⟩⟩ rfl rfl hl.1 rfl (lv_room (Nat.le_of_ble_eq_true rfl)) dX0_init_75 ⟨Nat.le_of_ble_eq_true rfl, Nat.le_of_ble_eq_true rfl⟩) hS (fun q _ h => h.elim) (fun q h => h.elim) (fun  u t H1 locs ht hvm hw hB hz1 hk1 hS => ?_)
  have hP := gz_keep hP hk1
  generalize H1 = H at hP hS ⊢
  refine va_astq hx hb hK hP hD hS 2 1 4 7 rfl rfl rfl rfl (by unfold vp_in; decide) dX0_init_78 (fun H locs hP hD hS => ?_)
  have hP : va_P (dC, dI) vwCl [(h0, .inr (0, [.int 0, .int 0, .int 0, .int 0, .int 0, .int 0, .int 0, .int 0, .int 0, .int 0, .ref q_1, .ref q_3, .ref q_5])), (q_1, .inl (k_2, 6, .inr (.inr (.inr (.inr f_30))))), (q_3, .inl (k_4, 24, .inr (.inr (.inr (.inr (va_up f_75 (11 : Int32).toNatClampNeg (some q_77))))))), (q_5, .inl (k_6, 8, .inr (.inr (.inr (.inr (fun _ => none)))))), (q_77, .inr (7, [.int 0, .int 0, .int 0, .int 0, .int 0, .int 0]))] H := hP
  have hD : va_D A [(h0, .inr (0, [.int 0, .int 0, .int 0, .int 0, .int 0, .int 0, .int 0, .int 0, .int 0, .int 0, .ref q_1, .ref q_3, .ref q_5])), (q_1, .inl (k_2, 6, .inr (.inr (.inr (.inr f_30))))), (q_3, .inl (k_4, 24, .inr (.inr (.inr (.inr (va_up f_75 (11 : Int32).toNatClampNeg (some q_77))))))), (q_5, .inl (k_6, 8, .inr (.inr (.inr (.inr (fun _ => none)))))), (q_77, .inr (7, [.int 0, .int 0, .int 0, .int 0, .int 0, .int 0]))] := hD
  generalize va_up f_75 (11 : Int32).toNatClampNeg (some q_77) = f_79 at hP hD
  have hP := hP.sub (ws' := [(h0, .inr (0, [.int 0, .int 0, .int 0, .int 0, .int 0, .int 0, .int 0, .int 0, .int 0, .int 0, .ref q_1, .ref q_3, .ref q_5])), (q_1, .inl (k_2, 6, .inr (.inr (.inr (.inr f_30))))), (q_3, .inl (k_4, 24, .inr (.inr (.inr (.inr f_79))))), (q_5, .inl (k_6, 8, .inr (.inr (.inr (.inr (fun _ => none))))))]) [0, 1, 2, 3] rfl
  have hD := hD.sub (ws' := [(h0, .inr (0, [.int 0, .int 0, .int 0, .int 0, .int 0, .int 0, .int 0, .int 0, .int 0, .int 0, .ref q_1, .ref q_3, .ref q_5])), (q_1, .inl (k_2, 6, .inr (.inr (.inr (.inr f_30))))), (q_3, .inl (k_4, 24, .inr (.inr (.inr (.inr f_79))))), (q_5, .inl (k_6, 8, .inr (.inr (.inr (.inr (fun _ => none))))))]) [0, 1, 2, 3] (by decide) rfl
  refine lv_iinc (v := 12) (lv' := [(1, .int 12), (0, .ref h0)]) hx hb dX0_init_79 hl (k := 0) rfl (by decide) (by decide) rfl (fun ls hl => ?_)
  refine lv_goto (tgt := 60) hx hb dX0_init_82 (by decide) ?_
  refine lv_iload_n hx hb dX0_init_60 rfl (lv_at hl 0 rfl) ?_
  refine lv_bipush (v := 24) hx hb dX0_init_61 (by decide) ?_
  refine lv_icmp_ge (tgt := 85) hx hb dX0_init_63 (by decide) (fun c_80 => absurd c_80 (by decide)) (fun c_80 => ?_)
  refine lv_aload_n hx hb dX0_init_66 rfl (lv_at hl 1 rfl) ?_
  refine va_get (D := (dC, dI)) (ci := 0) (v := .ref q_3) (C := RX0) (T := TX0) (N := 13) hx hb hts (fun w h => List.mem_cons_of_mem _ (jnGA_X0 w h)) hown hK hP 0 rfl rfl 11 (by decide) (hts _ (List.mem_cons_of_mem _ mGA_84)) (fun _ h9 => h9) rfl dX0_init_67 ?_
  refine lv_iload_n hx hb dX0_init_70 rfl (lv_at hl 0 rfl) ?_
  refine va_new (ci := 7) (fs := [.int 0, .int 0, .int 0, .int 0, .int 0, .int 0]) (C := RX7) (T := TX7) (N := 6) hx hb hts (fun w h => List.mem_cons_of_mem _ (jnGA_X7 w h)) tyX7 tyX7_ok hown (hts _ (List.mem_cons_of_mem _ mGA_83)) (hts _ (List.mem_cons_of_mem _ mGA_91)) (hts _ (List.mem_cons_of_mem _ mGA_92)) hK hP hD hS hA rfl dfX7 (Nat.le_of_ble_eq_true rfl) (Nat.le_of_ble_eq_true rfl) dX0_init_71 (fun q_81 H hP hD hS => ?_)
  have hP : va_P (dC, dI) vwCl [(h0, .inr (0, [.int 0, .int 0, .int 0, .int 0, .int 0, .int 0, .int 0, .int 0, .int 0, .int 0, .ref q_1, .ref q_3, .ref q_5])), (q_1, .inl (k_2, 6, .inr (.inr (.inr (.inr f_30))))), (q_3, .inl (k_4, 24, .inr (.inr (.inr (.inr f_79))))), (q_5, .inl (k_6, 8, .inr (.inr (.inr (.inr (fun _ => none)))))), (q_81, .inr (7, [.int 0, .int 0, .int 0, .int 0, .int 0, .int 0]))] H := hP
  have hD : va_D A [(h0, .inr (0, [.int 0, .int 0, .int 0, .int 0, .int 0, .int 0, .int 0, .int 0, .int 0, .int 0, .ref q_1, .ref q_3, .ref q_5])), (q_1, .inl (k_2, 6, .inr (.inr (.inr (.inr f_30))))), (q_3, .inl (k_4, 24, .inr (.inr (.inr (.inr f_79))))), (q_5, .inl (k_6, 8, .inr (.inr (.inr (.inr (fun _ => none)))))), (q_81, .inr (7, [.int 0, .int 0, .int 0, .int 0, .int 0, .int 0]))] := hD
  refine W.widen (k := 22) (n := 128) (Nat.le_of_ble_eq_true rfl) (Nat.le_of_ble_eq_true rfl) ?_
  refine lv_dup hx hb dX0_init_74 rfl ?_
  have hPc := hP.sub (ws' := []) [] rfl
  have hKc := hK.sub (tys' := []) [] rfl
  refine va_callv (va_runIN (As := []) (rest := [.ref q_81, .int 12, .ref q_3]) ⟨hx, hb, hml, hown, hts⟩ (fX7_init l dC dI q_81) (⟨va_cnB 0 hts (gz_gP mGA_93 goodGA) rfl rfl rfl (nzA_X0_30 hz) (hts _ (List.mem_cons_of_mem _ mGA_92)) (by decide +kernel) ⟨Nat.le_of_ble_eq_true rfl, Nat.le_of_ble_eq_true rfl⟩, rfl, (hts _ (List.mem_cons_of_mem _ mGA_94))⟩) ⟨fun a U g mk q => by obtain ⟨q0, qP, qK⟩ := q; exact ⟨q0, qP, va_K.moved (u := U) (U := U.calling g mk a) (Vm.Alike.refl U.vm) qK⟩, fun U hU hW => ⟨rfl, by rw [hU]; exact hPc, va_K.moved hW.alike hKc⟩⟩ rfl rfl hl.1 rfl (lv_room (Nat.le_of_ble_eq_true rfl)) dX0_init_75 ⟨Nat.le_of_ble_eq_true rfl, Nat.le_of_ble_eq_true rfl⟩) hS (fun q _ h => h.elim) (fun q h => h.elim) (fun  u t H1 locs ht hvm hw hB hz1 hk1 hS => ?_)
  have hP := gz_keep hP hk1
  generalize H1 = H at hP hS ⊢
  refine va_astq hx hb hK hP hD hS 2 1 4 7 rfl rfl rfl rfl (by unfold vp_in; decide) dX0_init_78 (fun H locs hP hD hS => ?_)
  have hP : va_P (dC, dI) vwCl [(h0, .inr (0, [.int 0, .int 0, .int 0, .int 0, .int 0, .int 0, .int 0, .int 0, .int 0, .int 0, .ref q_1, .ref q_3, .ref q_5])), (q_1, .inl (k_2, 6, .inr (.inr (.inr (.inr f_30))))), (q_3, .inl (k_4, 24, .inr (.inr (.inr (.inr (va_up f_79 (12 : Int32).toNatClampNeg (some q_81))))))), (q_5, .inl (k_6, 8, .inr (.inr (.inr (.inr (fun _ => none)))))), (q_81, .inr (7, [.int 0, .int 0, .int 0, .int 0, .int 0, .int 0]))] H := hP
  have hD : va_D A [(h0, .inr (0, [.int 0, .int 0, .int 0, .int 0, .int 0, .int 0, .int 0, .int 0, .int 0, .int 0, .ref q_1, .ref q_3, .ref q_5])), (q_1, .inl (k_2, 6, .inr (.inr (.inr (.inr f_30))))), (q_3, .inl (k_4, 24, .inr (.inr (.inr (.inr (va_up f_79 (12 : Int32).toNatClampNeg (some q_81))))))), (q_5, .inl (k_6, 8, .inr (.inr (.inr (.inr (fun _ => none)))))), (q_81, .inr (7, [.int 0, .int 0, .int 0, .int 0, .int 0, .int 0]))] := hD
  generalize va_up f_79 (12 : Int32).toNatClampNeg (some q_81) = f_83 at hP hD
  have hP := hP.sub (ws' := [(h0, .inr (0, [.int 0, .int 0, .int 0, .int 0, .int 0, .int 0, .int 0, .int 0, .int 0, .int 0, .ref q_1, .ref q_3, .ref q_5])), (q_1, .inl (k_2, 6, .inr (.inr (.inr (.inr f_30))))), (q_3, .inl (k_4, 24, .inr (.inr (.inr (.inr f_83))))), (q_5, .inl (k_6, 8, .inr (.inr (.inr (.inr (fun _ => none))))))]) [0, 1, 2, 3] rfl
  have hD := hD.sub (ws' := [(h0, .inr (0, [.int 0, .int 0, .int 0, .int 0, .int 0, .int 0, .int 0, .int 0, .int 0, .int 0, .ref q_1, .ref q_3, .ref q_5])), (q_1, .inl (k_2, 6, .inr (.inr (.inr (.inr f_30))))), (q_3, .inl (k_4, 24, .inr (.inr (.inr (.inr f_83))))), (q_5, .inl (k_6, 8, .inr (.inr (.inr (.inr (fun _ => none))))))]) [0, 1, 2, 3] (by decide) rfl
  refine lv_iinc (v := 13) (lv' := [(1, .int 13), (0, .ref h0)]) hx hb dX0_init_79 hl (k := 0) rfl (by decide) (by decide) rfl (fun ls hl => ?_)
  refine lv_goto (tgt := 60) hx hb dX0_init_82 (by decide) ?_
  refine lv_iload_n hx hb dX0_init_60 rfl (lv_at hl 0 rfl) ?_
  refine lv_bipush (v := 24) hx hb dX0_init_61 (by decide) ?_
  refine lv_icmp_ge (tgt := 85) hx hb dX0_init_63 (by decide) (fun c_84 => absurd c_84 (by decide)) (fun c_84 => ?_)
  refine lv_aload_n hx hb dX0_init_66 rfl (lv_at hl 1 rfl) ?_
  refine va_get (D := (dC, dI)) (ci := 0) (v := .ref q_3) (C := RX0) (T := TX0) (N := 13) hx hb hts (fun w h => List.mem_cons_of_mem _ (jnGA_X0 w h)) hown hK hP 0 rfl rfl 11 (by decide) (hts _ (List.mem_cons_of_mem _ mGA_84)) (fun _ h9 => h9) rfl dX0_init_67 ?_
  refine lv_iload_n hx hb dX0_init_70 rfl (lv_at hl 0 rfl) ?_
  refine va_new (ci := 7) (fs := [.int 0, .int 0, .int 0, .int 0, .int 0, .int 0]) (C := RX7) (T := TX7) (N := 6) hx hb hts (fun w h => List.mem_cons_of_mem _ (jnGA_X7 w h)) tyX7 tyX7_ok hown (hts _ (List.mem_cons_of_mem _ mGA_83)) (hts _ (List.mem_cons_of_mem _ mGA_91)) (hts _ (List.mem_cons_of_mem _ mGA_92)) hK hP hD hS hA rfl dfX7 (Nat.le_of_ble_eq_true rfl) (Nat.le_of_ble_eq_true rfl) dX0_init_71 (fun q_85 H hP hD hS => ?_)
  have hP : va_P (dC, dI) vwCl [(h0, .inr (0, [.int 0, .int 0, .int 0, .int 0, .int 0, .int 0, .int 0, .int 0, .int 0, .int 0, .ref q_1, .ref q_3, .ref q_5])), (q_1, .inl (k_2, 6, .inr (.inr (.inr (.inr f_30))))), (q_3, .inl (k_4, 24, .inr (.inr (.inr (.inr f_83))))), (q_5, .inl (k_6, 8, .inr (.inr (.inr (.inr (fun _ => none)))))), (q_85, .inr (7, [.int 0, .int 0, .int 0, .int 0, .int 0, .int 0]))] H := hP
  have hD : va_D A [(h0, .inr (0, [.int 0, .int 0, .int 0, .int 0, .int 0, .int 0, .int 0, .int 0, .int 0, .int 0, .ref q_1, .ref q_3, .ref q_5])), (q_1, .inl (k_2, 6, .inr (.inr (.inr (.inr f_30))))), (q_3, .inl (k_4, 24, .inr (.inr (.inr (.inr f_83))))), (q_5, .inl (k_6, 8, .inr (.inr (.inr (.inr (fun _ => none)))))), (q_85, .inr (7, [.int 0, .int 0, .int 0, .int 0, .int 0, .int 0]))] := hD
  refine W.widen (k := 23) (n := 134) (Nat.le_of_ble_eq_true rfl) (Nat.le_of_ble_eq_true rfl) ?_
  refine lv_dup hx hb dX0_init_74 rfl ?_
  have hPc := hP.sub (ws' := []) [] rfl
  have hKc := hK.sub (tys' := []) [] rfl
  refine va_callv (va_runIN (As := []) (rest := [.ref q_85, .int 13, .ref q_3]) ⟨hx, hb, hml, hown, hts⟩ (fX7_init l dC dI q_85) (⟨va_cnB 0 hts (gz_gP mGA_93 goodGA) rfl rfl rfl (nzA_X0_30 hz) (hts _ (List.mem_cons_of_mem _ mGA_92)) (by decide +kernel) ⟨Nat.le_of_ble_eq_true rfl, Nat.le_of_ble_eq_true rfl⟩, rfl, (hts _ (List.mem_cons_of_mem _ mGA_94))⟩) ⟨fun a U g mk q => by obtain ⟨q0, qP, qK⟩ := q; exact ⟨q0, qP, va_K.moved (u := U) (U := U.calling g mk a) (Vm.Alike.refl U.vm) qK⟩, fun U hU hW => ⟨rfl, by rw [hU]; exact hPc, va_K.moved hW.alike hKc⟩⟩ rfl rfl hl.1 rfl (lv_room (Nat.le_of_ble_eq_true rfl)) dX0_init_75 ⟨Nat.le_of_ble_eq_true rfl, Nat.le_of_ble_eq_true rfl⟩) hS (fun q _ h => h.elim) (fun q h => h.elim) (fun  u t H1 locs ht hvm hw hB hz1 hk1 hS => ?_)
  have hP := gz_keep hP hk1
  generalize H1 = H at hP hS ⊢
  refine va_astq hx hb hK hP hD hS 2 1 4 7 rfl rfl rfl rfl (by unfold vp_in; decide) dX0_init_78 (fun H locs hP hD hS => ?_)
  have hP : va_P (dC, dI) vwCl [(h0, .inr (0, [.int 0, .int 0, .int 0, .int 0, .int 0, .int 0, .int 0, .int 0, .int 0, .int 0, .ref q_1, .ref q_3, .ref q_5])), (q_1, .inl (k_2, 6, .inr (.inr (.inr (.inr f_30))))), (q_3, .inl (k_4, 24, .inr (.inr (.inr (.inr (va_up f_83 (13 : Int32).toNatClampNeg (some q_85))))))), (q_5, .inl (k_6, 8, .inr (.inr (.inr (.inr (fun _ => none)))))), (q_85, .inr (7, [.int 0, .int 0, .int 0, .int 0, .int 0, .int 0]))] H := hP
  have hD : va_D A [(h0, .inr (0, [.int 0, .int 0, .int 0, .int 0, .int 0, .int 0, .int 0, .int 0, .int 0, .int 0, .ref q_1, .ref q_3, .ref q_5])), (q_1, .inl (k_2, 6, .inr (.inr (.inr (.inr f_30))))), (q_3, .inl (k_4, 24, .inr (.inr (.inr (.inr (va_up f_83 (13 : Int32).toNatClampNeg (some q_85))))))), (q_5, .inl (k_6, 8, .inr (.inr (.inr (.inr (fun _ => none)))))), (q_85, .inr (7, [.int 0, .int 0, .int 0, .int 0, .int 0, .int 0]))] := hD
  generalize va_up f_83 (13 : Int32).toNatClampNeg (some q_85) = f_87 at hP hD
  have hP := hP.sub (ws' := [(h0, .inr (0, [.int 0, .int 0, .int 0, .int 0, .int 0, .int 0, .int 0, .int 0, .int 0, .int 0, .ref q_1, .ref q_3, .ref q_5])), (q_1, .inl (k_2, 6, .inr (.inr (.inr (.inr f_30))))), (q_3, .inl (k_4, 24, .inr (.inr (.inr (.inr f_87))))), (q_5, .inl (k_6, 8, .inr (.inr (.inr (.inr (fun _ => none))))))]) [0, 1, 2, 3] rfl
  have hD := hD.sub (ws' := [(h0, .inr (0, [.int 0, .int 0, .int 0, .int 0, .int 0, .int 0, .int 0, .int 0, .int 0, .int 0, .ref q_1, .ref q_3, .ref q_5])), (q_1, .inl (k_2, 6, .inr (.inr (.inr (.inr f_30))))), (q_3, .inl (k_4, 24, .inr (.inr (.inr (.inr f_87))))), (q_5, .inl (k_6, 8, .inr (.inr (.inr (.inr (fun _ => none))))))]) [0, 1, 2, 3] (by decide) rfl
  refine lv_iinc (v := 14) (lv' := [(1, .int 14), (0, .ref h0)]) hx hb dX0_init_79 hl (k := 0) rfl (by decide) (by decide) rfl (fun ls hl => ?_)
  refine lv_goto (tgt := 60) hx hb dX0_init_82 (by decide) ?_
  refine lv_iload_n hx hb dX0_init_60 rfl (lv_at hl 0 rfl) ?_
  refine lv_bipush (v := 24) hx hb dX0_init_61 (by decide) ?_
  refine lv_icmp_ge (tgt := 85) hx hb dX0_init_63 (by decide) (fun c_88 => absurd c_88 (by decide)) (fun c_88 => ?_)
  refine lv_aload_n hx hb dX0_init_66 rfl (lv_at hl 1 rfl) ?_
  refine va_get (D := (dC, dI)) (ci := 0) (v := .ref q_3) (C := RX0) (T := TX0) (N := 13) hx hb hts (fun w h => List.mem_cons_of_mem _ (jnGA_X0 w h)) hown hK hP 0 rfl rfl 11 (by decide) (hts _ (List.mem_cons_of_mem _ mGA_84)) (fun _ h9 => h9) rfl dX0_init_67 ?_
  refine lv_iload_n hx hb dX0_init_70 rfl (lv_at hl 0 rfl) ?_
  refine va_new (ci := 7) (fs := [.int 0, .int 0, .int 0, .int 0, .int 0, .int 0]) (C := RX7) (T := TX7) (N := 6) hx hb hts (fun w h => List.mem_cons_of_mem _ (jnGA_X7 w h)) tyX7 tyX7_ok hown (hts _ (List.mem_cons_of_mem _ mGA_83)) (hts _ (List.mem_cons_of_mem _ mGA_91)) (hts _ (List.mem_cons_of_mem _ mGA_92)) hK hP hD hS hA rfl dfX7 (Nat.le_of_ble_eq_true rfl) (Nat.le_of_ble_eq_true rfl) dX0_init_71 (fun q_89 H hP hD hS => ?_)
  have hP : va_P (dC, dI) vwCl [(h0, .inr (0, [.int 0, .int 0, .int 0, .int 0, .int 0, .int 0, .int 0, .int 0, .int 0, .int 0, .ref q_1, .ref q_3, .ref q_5])), (q_1, .inl (k_2, 6, .inr (.inr (.inr (.inr f_30))))), (q_3, .inl (k_4, 24, .inr (.inr (.inr (.inr f_87))))), (q_5, .inl (k_6, 8, .inr (.inr (.inr (.inr (fun _ => none)))))), (q_89, .inr (7, [.int 0, .int 0, .int 0, .int 0, .int 0, .int 0]))] H := hP
  have hD : va_D A [(h0, .inr (0, [.int 0, .int 0, .int 0, .int 0, .int 0, .int 0, .int 0, .int 0, .int 0, .int 0, .ref q_1, .ref q_3, .ref q_5])), (q_1, .inl (k_2, 6, .inr (.inr (.inr (.inr f_30))))), (q_3, .inl (k_4, 24, .inr (.inr (.inr (.inr f_87))))), (q_5, .inl (k_6, 8, .inr (.inr (.inr (.inr (fun _ => none)))))), (q_89, .inr (7, [.int 0, .int 0, .int 0, .int 0, .int 0, .int 0]))] := hD
  refine W.widen (k := 24) (n := 140) (Nat.le_of_ble_eq_true rfl) (Nat.le_of_ble_eq_true rfl) ?_
  refine lv_dup hx hb dX0_init_74 rfl ?_
  have hPc := hP.sub (ws' := []) [] rfl
  have hKc := hK.sub (tys' := []) [] rfl
  refine va_callv (va_runIN (As := []) (rest := [.ref q_89, .int 14, .ref q_3]) ⟨hx, hb, hml, hown, hts⟩ (fX7_init l dC dI q_89) (⟨va_cnB 0 hts (gz_gP mGA_93 goodGA) rfl rfl rfl (nzA_X0_30 hz) (hts _ (List.mem_cons_of_mem _ mGA_92)) (by decide +kernel) ⟨Nat.le_of_ble_eq_true rfl, Nat.le_of_ble_eq_true rfl⟩, rfl, (hts _ (List.mem_cons_of_mem _ mGA_94))⟩) ⟨fun a U g mk q => by obtain ⟨q0, qP, qK⟩ := q; exact ⟨q0, qP, va_K.moved (u := U) (U := U.calling g mk a) (Vm.Alike.refl U.vm) qK⟩, fun U hU hW => ⟨rfl, by rw [hU]; exact hPc, va_K.moved hW.alike hKc⟩⟩ rfl rfl hl.1 rfl (lv_room (Nat.le_of_ble_eq_true rfl)) dX0_init_75 ⟨Nat.le_of_ble_eq_true rfl, Nat.le_of_ble_eq_true rfl⟩) hS (fun q _ h => h.elim) (fun q h => h.elim) (fun  u t H1 locs ht hvm hw hB hz1 hk1 hS => ?_)
  have hP := gz_keep hP hk1
  generalize H1 = H at hP hS ⊢
  refine va_astq hx hb hK hP hD hS 2 1 4 7 rfl rfl rfl rfl (by unfold vp_in; decide) dX0_init_78 (fun H locs hP hD hS => ?_)
  have hP : va_P (dC, dI) vwCl [(h0, .inr (0, [.int 0, .int 0, .int 0, .int 0, .int 0, .int 0, .int 0, .int 0, .int 0, .int 0, .ref q_1, .ref q_3, .ref q_5])), (q_1, .inl (k_2, 6, .inr (.inr (.inr (.inr f_30))))), (q_3, .inl (k_4, 24, .inr (.inr (.inr (.inr (va_up f_87 (14 : Int32).toNatClampNeg (some q_89))))))), (q_5, .inl (k_6, 8, .inr (.inr (.inr (.inr (fun _ => none)))))), (q_89, .inr (7, [.int 0, .int 0, .int 0, .int 0, .int 0, .int 0]))] H := hP
  have hD : va_D A [(h0, .inr (0, [.int 0, .int 0, .int 0, .int 0, .int 0, .int 0, .int 0, .int 0, .int 0, .int 0, .ref q_1, .ref q_3, .ref q_5])), (q_1, .inl (k_2, 6, .inr (.inr (.inr (.inr f_30))))), (q_3, .inl (k_4, 24, .inr (.inr (.inr (.inr (va_up f_87 (14 : Int32).toNatClampNeg (some q_89))))))), (q_5, .inl (k_6, 8, .inr (.inr (.inr (.inr (fun _ => none)))))), (q_89, .inr (7, [.int 0, .int 0, .int 0, .int 0, .int 0, .int 0]))] := hD
  generalize va_up f_87 (14 : Int32).toNatClampNeg (some q_89) = f_91 at hP hD
  have hP := hP.sub (ws' := [(h0, .inr (0, [.int 0, .int 0, .int 0, .int 0, .int 0, .int 0, .int 0, .int 0, .int 0, .int 0, .ref q_1, .ref q_3, .ref q_5])), (q_1, .inl (k_2, 6, .inr (.inr (.inr (.inr f_30))))), (q_3, .inl (k_4, 24, .inr (.inr (.inr (.inr f_91))))), (q_5, .inl (k_6, 8, .inr (.inr (.inr (.inr (fun _ => none))))))]) [0, 1, 2, 3] rfl
  have hD := hD.sub (ws' := [(h0, .inr (0, [.int 0, .int 0, .int 0, .int 0, .int 0, .int 0, .int 0, .int 0, .int 0, .int 0, .ref q_1, .ref q_3, .ref q_5])), (q_1, .inl (k_2, 6, .inr (.inr (.inr (.inr f_30))))), (q_3, .inl (k_4, 24, .inr (.inr (.inr (.inr f_91))))), (q_5, .inl (k_6, 8, .inr (.inr (.inr (.inr (fun _ => none))))))]) [0, 1, 2, 3] (by decide) rfl
  refine lv_iinc (v := 15) (lv' := [(1, .int 15), (0, .ref h0)]) hx hb dX0_init_79 hl (k := 0) rfl (by decide) (by decide) rfl (fun ls hl => ?_)
  refine lv_goto (tgt := 60) hx hb dX0_init_82 (by decide) ?_
  refine lv_iload_n hx hb dX0_init_60 rfl (lv_at hl 0 rfl) ?_
  refine lv_bipush (v := 24) hx hb dX0_init_61 (by decide) ?_
  refine lv_icmp_ge (tgt := 85) hx hb dX0_init_63 (by decide) (fun c_92 => absurd c_92 (by decide)) (fun c_92 => ?_)
  refine lv_aload_n hx hb dX0_init_66 rfl (lv_at hl 1 rfl) ?_
  refine va_get (D := (dC, dI)) (ci := 0) (v := .ref q_3) (C := RX0) (T := TX0) (N := 13) hx hb hts (fun w h => List.mem_cons_of_mem _ (jnGA_X0 w h)) hown hK hP 0 rfl rfl 11 (by decide) (hts _ (List.mem_cons_of_mem _ mGA_84)) (fun _ h9 => h9) rfl dX0_init_67 ?_
  refine lv_iload_n hx hb dX0_init_70 rfl (lv_at hl 0 rfl) ?_
  refine va_new (ci := 7) (fs := [.int 0, .int 0, .int 0, .int 0, .int 0, .int 0]) (C := RX7) (T := TX7) (N := 6) hx hb hts (fun w h => List.mem_cons_of_mem _ (jnGA_X7 w h)) tyX7 tyX7_ok hown (hts _ (List.mem_cons_of_mem _ mGA_83)) (hts _ (List.mem_cons_of_mem _ mGA_91)) (hts _ (List.mem_cons_of_mem _ mGA_92)) hK hP hD hS hA rfl dfX7 (Nat.le_of_ble_eq_true rfl) (Nat.le_of_ble_eq_true rfl) dX0_init_71 (fun q_93 H hP hD hS => ?_)
  have hP : va_P (dC, dI) vwCl [(h0, .inr (0, [.int 0, .int 0, .int 0, .int 0, .int 0, .int 0, .int 0, .int 0, .int 0, .int 0, .ref q_1, .ref q_3, .ref q_5])), (q_1, .inl (k_2, 6, .inr (.inr (.inr (.inr f_30))))), (q_3, .inl (k_4, 24, .inr (.inr (.inr (.inr f_91))))), (q_5, .inl (k_6, 8, .inr (.inr (.inr (.inr (fun _ => none)))))), (q_93, .inr (7, [.int 0, .int 0, .int 0, .int 0, .int 0, .int 0]))] H := hP
  have hD : va_D A [(h0, .inr (0, [.int 0, .int 0, .int 0, .int 0, .int 0, .int 0, .int 0, .int 0, .int 0, .int 0, .ref q_1, .ref q_3, .ref q_5])), (q_1, .inl (k_2, 6, .inr (.inr (.inr (.inr f_30))))), (q_3, .inl (k_4, 24, .inr (.inr (.inr (.inr f_91))))), (q_5, .inl (k_6, 8, .inr (.inr (.inr (.inr (fun _ => none)))))), (q_93, .inr (7, [.int 0, .int 0, .int 0, .int 0, .int 0, .int 0]))] := hD
  refine W.widen (k := 25) (n := 146) (Nat.le_of_ble_eq_true rfl) (Nat.le_of_ble_eq_true rfl) ?_
  refine lv_dup hx hb dX0_init_74 rfl ?_
  have hPc := hP.sub (ws' := []) [] rfl
  have hKc := hK.sub (tys' := []) [] rfl
  refine va_callv (va_runIN (As := []) (rest := [.ref q_93, .int 15, .ref q_3]) ⟨hx, hb, hml, hown, hts⟩ (fX7_init l dC dI q_93) (⟨va_cnB 0 hts (gz_gP mGA_93 goodGA) rfl rfl rfl (nzA_X0_30 hz) (hts _ (List.mem_cons_of_mem _ mGA_92)) (by decide +kernel) ⟨Nat.le_of_ble_eq_true rfl, Nat.le_of_ble_eq_true rfl⟩, rfl, (hts _ (List.mem_cons_of_mem _ mGA_94))⟩) ⟨fun a U g mk q => by obtain ⟨q0, qP, qK⟩ := q; exact ⟨q0, qP, va_K.moved (u := U) (U := U.calling g mk a) (Vm.Alike.refl U.vm) qK⟩, fun U hU hW => ⟨rfl, by rw [hU]; exact hPc, va_K.moved hW.alike hKc⟩⟩ rfl rfl hl.1 rfl (lv_room (Nat.le_of_ble_eq_true rfl)) dX0_init_75 ⟨Nat.le_of_ble_eq_true rfl, Nat.le_of_ble_eq_true rfl⟩) hS (fun q _ h => h.elim) (fun q h => h.elim) (fun  u t H1 locs ht hvm hw hB hz1 hk1 hS => ?_)
  have hP := gz_keep hP hk1
  generalize H1 = H at hP hS ⊢
  refine va_astq hx hb hK hP hD hS 2 1 4 7 rfl rfl rfl rfl (by unfold vp_in; decide) dX0_init_78 (fun H locs hP hD hS => ?_)
  have hP : va_P (dC, dI) vwCl [(h0, .inr (0, [.int 0, .int 0, .int 0, .int 0, .int 0, .int 0, .int 0, .int 0, .int 0, .int 0, .ref q_1, .ref q_3, .ref q_5])), (q_1, .inl (k_2, 6, .inr (.inr (.inr (.inr f_30))))), (q_3, .inl (k_4, 24, .inr (.inr (.inr (.inr (va_up f_91 (15 : Int32).toNatClampNeg (some q_93))))))), (q_5, .inl (k_6, 8, .inr (.inr (.inr (.inr (fun _ => none)))))), (q_93, .inr (7, [.int 0, .int 0, .int 0, .int 0, .int 0, .int 0]))] H := hP
  have hD : va_D A [(h0, .inr (0, [.int 0, .int 0, .int 0, .int 0, .int 0, .int 0, .int 0, .int 0, .int 0, .int 0, .ref q_1, .ref q_3, .ref q_5])), (q_1, .inl (k_2, 6, .inr (.inr (.inr (.inr f_30))))), (q_3, .inl (k_4, 24, .inr (.inr (.inr (.inr (va_up f_91 (15 : Int32).toNatClampNeg (some q_93))))))), (q_5, .inl (k_6, 8, .inr (.inr (.inr (.inr (fun _ => none)))))), (q_93, .inr (7, [.int 0, .int 0, .int 0, .int 0, .int 0, .int 0]))] := hD
  generalize va_up f_91 (15 : Int32).toNatClampNeg (some q_93) = f_95 at hP hD
  have hP := hP.sub (ws' := [(h0, .inr (0, [.int 0, .int 0, .int 0, .int 0, .int 0, .int 0, .int 0, .int 0, .int 0, .int 0, .ref q_1, .ref q_3, .ref q_5])), (q_1, .inl (k_2, 6, .inr (.inr (.inr (.inr f_30))))), (q_3, .inl (k_4, 24, .inr (.inr (.inr (.inr f_95))))), (q_5, .inl (k_6, 8, .inr (.inr (.inr (.inr (fun _ => none))))))]) [0, 1, 2, 3] rfl
  have hD := hD.sub (ws' := [(h0, .inr (0, [.int 0, .int 0, .int 0, .int 0, .int 0, .int 0, .int 0, .int 0, .int 0, .int 0, .ref q_1, .ref q_3, .ref q_5])), (q_1, .inl (k_2, 6, .inr (.inr (.inr (.inr f_30))))), (q_3, .inl (k_4, 24, .inr (.inr (.inr (.inr f_95))))), (q_5, .inl (k_6, 8, .inr (.inr (.inr (.inr (fun _ => none))))))]) [0, 1, 2, 3] (by decide) rfl
  refine lv_iinc (v := 16) (lv' := [(1, .int 16), (0, .ref h0)]) hx hb dX0_init_79 hl (k := 0) rfl (by decide) (by decide) rfl (fun ls hl => ?_)
  refine lv_goto (tgt := 60) hx hb dX0_init_82 (by decide) ?_
  refine lv_iload_n hx hb dX0_init_60 rfl (lv_at hl 0 rfl) ?_
  refine lv_bipush (v := 24) hx hb dX0_init_61 (by decide) ?_
  refine lv_icmp_ge (tgt := 85) hx hb dX0_init_63 (by decide) (fun c_96 => absurd c_96 (by decide)) (fun c_96 => ?_)
  refine lv_aload_n hx hb dX0_init_66 rfl (lv_at hl 1 rfl) ?_
  refine va_get (D := (dC, dI)) (ci := 0) (v := .ref q_3) (C := RX0) (T := TX0) (N := 13) hx hb hts (fun w h => List.mem_cons_of_mem _ (jnGA_X0 w h)) hown hK hP 0 rfl rfl 11 (by decide) (hts _ (List.mem_cons_of_mem _ mGA_84)) (fun _ h9 => h9) rfl dX0_init_67 ?_
  refine lv_iload_n hx hb dX0_init_70 rfl (lv_at hl 0 rfl) ?_
  refine va_new (ci := 7) (fs := [.int 0, .int 0, .int 0, .int 0, .int 0, .int 0]) (C := RX7) (T := TX7) (N := 6) hx hb hts (fun w h => List.mem_cons_of_mem _ (jnGA_X7 w h)) tyX7 tyX7_ok hown (hts _ (List.mem_cons_of_mem _ mGA_83)) (hts _ (List.mem_cons_of_mem _ mGA_91)) (hts _ (List.mem_cons_of_mem _ mGA_92)) hK hP hD hS hA rfl dfX7 (Nat.le_of_ble_eq_true rfl) (Nat.le_of_ble_eq_true rfl) dX0_init_71 (fun q_97 H hP hD hS => ?_)
  have hP : va_P (dC, dI) vwCl [(h0, .inr (0, [.int 0, .int 0, .int 0, .int 0, .int 0, .int 0, .int 0, .int 0, .int 0, .int 0, .ref q_1, .ref q_3, .ref q_5])), (q_1, .inl (k_2, 6, .inr (.inr (.inr (.inr f_30))))), (q_3, .inl (k_4, 24, .inr (.inr (.inr (.inr f_95))))), (q_5, .inl (k_6, 8, .inr (.inr (.inr (.inr (fun _ => none)))))), (q_97, .inr (7, [.int 0, .int 0, .int 0, .int 0, .int 0, .int 0]))] H := hP
  have hD : va_D A [(h0, .inr (0, [.int 0, .int 0, .int 0, .int 0, .int 0, .int 0, .int 0, .int 0, .int 0, .int 0, .ref q_1, .ref q_3, .ref q_5])), (q_1, .inl (k_2, 6, .inr (.inr (.inr (.inr f_30))))), (q_3, .inl (k_4, 24, .inr (.inr (.inr (.inr f_95))))), (q_5, .inl (k_6, 8, .inr (.inr (.inr (.inr (fun _ => none)))))), (q_97, .inr (7, [.int 0, .int 0, .int 0, .int 0, .int 0, .int 0]))] := hD
  refine W.widen (k := 26) (n := 152) (Nat.le_of_ble_eq_true rfl) (Nat.le_of_ble_eq_true rfl) ?_
  refine lv_dup hx hb dX0_init_74 rfl ?_
  have hPc := hP.sub (ws' := []) [] rfl
  have hKc := hK.sub (tys' := []) [] rfl
  refine va_callv (va_runIN (As := []) (rest := [.ref q_97, .int 16, .ref q_3]) ⟨hx, hb, hml, hown, hts⟩ (fX7_init l dC dI q_97) (⟨va_cnB 0 hts (gz_gP mGA_93 goodGA) rfl rfl rfl (nzA_X0_30 hz) (hts _ (List.mem_cons_of_mem _ mGA_92)) (by decide +kernel) ⟨Nat.le_of_ble_eq_true rfl, Nat.le_of_ble_eq_true rfl⟩, rfl, (hts _ (List.mem_cons_of_mem _ mGA_94))⟩) ⟨fun a U g mk q => by obtain ⟨q0, qP, qK⟩ := q; exact ⟨q0, qP, va_K.moved (u := U) (U := U.calling g mk a) (Vm.Alike.refl U.vm) qK⟩, fun U hU hW => ⟨rfl, by rw [hU]; exact hPc, va_K.moved hW.alike hKc⟩⟩ rfl rfl hl.1 rfl (lv_room (Nat.le_of_ble_eq_true rfl)) dX0_init_75 ⟨Nat.le_of_ble_eq_true rfl, Nat.le_of_ble_eq_true rfl⟩) hS (fun q _ h => h.elim) (fun q h => h.elim) (fun  u t H1 locs ht hvm hw hB hz1 hk1 hS => ?_)
  have hP := gz_keep hP hk1
  generalize H1 = H at hP hS ⊢
  refine va_astq hx hb hK hP hD hS 2 1 4 7 rfl rfl rfl rfl (by unfold vp_in; decide) dX0_init_78 (fun H locs hP hD hS => ?_)
  have hP : va_P (dC, dI) vwCl [(h0, .inr (0, [.int 0, .int 0, .int 0, .int 0, .int 0, .int 0, .int 0, .int 0, .int 0, .int 0, .ref q_1, .ref q_3, .ref q_5])), (q_1, .inl (k_2, 6, .inr (.inr (.inr (.inr f_30))))), (q_3, .inl (k_4, 24, .inr (.inr (.inr (.inr (va_up f_95 (16 : Int32).toNatClampNeg (some q_97))))))), (q_5, .inl (k_6, 8, .inr (.inr (.inr (.inr (fun _ => none)))))), (q_97, .inr (7, [.int 0, .int 0, .int 0, .int 0, .int 0, .int 0]))] H := hP
  have hD : va_D A [(h0, .inr (0, [.int 0, .int 0, .int 0, .int 0, .int 0, .int 0, .int 0, .int 0, .int 0, .int 0, .ref q_1, .ref q_3, .ref q_5])), (q_1, .inl (k_2, 6, .inr (.inr (.inr (.inr f_30))))), (q_3, .inl (k_4, 24, .inr (.inr (.inr (.inr (va_up f_95 (16 : Int32).toNatClampNeg (some q_97))))))), (q_5, .inl (k_6, 8, .inr (.inr (.inr (.inr (fun _ => none)))))), (q_97, .inr (7, [.int 0, .int 0, .int 0, .int 0, .int 0, .int 0]))] := hD
  generalize va_up f_95 (16 : Int32).toNatClampNeg (some q_97) = f_99 at hP hD
  have hP := hP.sub (ws' := [(h0, .inr (0, [.int 0, .int 0, .int 0, .int 0, .int 0, .int 0, .int 0, .int 0, .int 0, .int 0, .ref q_1, .ref q_3, .ref q_5])), (q_1, .inl (k_2, 6, .inr (.inr (.inr (.inr f_30))))), (q_3, .inl (k_4, 24, .inr (.inr (.inr (.inr f_99))))), (q_5, .inl (k_6, 8, .inr (.inr (.inr (.inr (fun _ => none))))))]) [0, 1, 2, 3] rfl
  have hD := hD.sub (ws' := [(h0, .inr (0, [.int 0, .int 0, .int 0, .int 0, .int 0, .int 0, .int 0, .int 0, .int 0, .int 0, .ref q_1, .ref q_3, .ref q_5])), (q_1, .inl (k_2, 6, .inr (.inr (.inr (.inr f_30))))), (q_3, .inl (k_4, 24, .inr (.inr (.inr (.inr f_99))))), (q_5, .inl (k_6, 8, .inr (.inr (.inr (.inr (fun _ => none))))))]) [0, 1, 2, 3] (by decide) rfl
  refine lv_iinc (v := 17) (lv' := [(1, .int 17), (0, .ref h0)]) hx hb dX0_init_79 hl (k := 0) rfl (by decide) (by decide) rfl (fun ls hl => ?_)
  refine lv_goto (tgt := 60) hx hb dX0_init_82 (by decide) ?_
  refine lv_iload_n hx hb dX0_init_60 rfl (lv_at hl 0 rfl) ?_
  refine lv_bipush (v := 24) hx hb dX0_init_61 (by decide) ?_
  refine lv_icmp_ge (tgt := 85) hx hb dX0_init_63 (by decide) (fun c_100 => absurd c_100 (by decide)) (fun c_100 => ?_)
  refine lv_aload_n hx hb dX0_init_66 rfl (lv_at hl 1 rfl) ?_
  refine va_get (D := (dC, dI)) (ci := 0) (v := .ref q_3) (C := RX0) (T := TX0) (N := 13) hx hb hts (fun w h => List.mem_cons_of_mem _ (jnGA_X0 w h)) hown hK hP 0 rfl rfl 11 (by decide) (hts _ (List.mem_cons_of_mem _ mGA_84)) (fun _ h9 => h9) rfl dX0_init_67 ?_
  refine lv_iload_n hx hb dX0_init_70 rfl (lv_at hl 0 rfl) ?_
  refine va_new (ci := 7) (fs := [.int 0, .int 0, .int 0, .int 0, .int 0, .int 0]) (C := RX7) (T := TX7) (N := 6) hx hb hts (fun w h => List.mem_cons_of_mem _ (jnGA_X7 w h)) tyX7 tyX7_ok hown (hts _ (List.mem_cons_of_mem _ mGA_83)) (hts _ (List.mem_cons_of_mem _ mGA_91)) (hts _ (List.mem_cons_of_mem _ mGA_92)) hK hP hD hS hA rfl dfX7 (Nat.le_of_ble_eq_true rfl) (Nat.le_of_ble_eq_true rfl) dX0_init_71 (fun q_101 H hP hD hS => ?_)
  have hP : va_P (dC, dI) vwCl [(h0, .inr (0, [.int 0, .int 0, .int 0, .int 0, .int 0, .int 0, .int 0, .int 0, .int 0, .int 0, .ref q_1, .ref q_3, .ref q_5])), (q_1, .inl (k_2, 6, .inr (.inr (.inr (.inr f_30))))), (q_3, .inl (k_4, 24, .inr (.inr (.inr (.inr f_99))))), (q_5, .inl (k_6, 8, .inr (.inr (.inr (.inr (fun _ => none)))))), (q_101, .inr (7, [.int 0, .int 0, .int 0, .int 0, .int 0, .int 0]))] H := hP
  have hD : va_D A [(h0, .inr (0, [.int 0, .int 0, .int 0, .int 0, .int 0, .int 0, .int 0, .int 0, .int 0, .int 0, .ref q_1, .ref q_3, .ref q_5])), (q_1, .inl (k_2, 6, .inr (.inr (.inr (.inr f_30))))), (q_3, .inl (k_4, 24, .inr (.inr (.inr (.inr f_99))))), (q_5, .inl (k_6, 8, .inr (.inr (.inr (.inr (fun _ => none)))))), (q_101, .inr (7, [.int 0, .int 0, .int 0, .int 0, .int 0, .int 0]))] := hD
  refine W.widen (k := 27) (n := 158) (Nat.le_of_ble_eq_true rfl) (Nat.le_of_ble_eq_true rfl) ?_
  refine lv_dup hx hb dX0_init_74 rfl ?_
  have hPc := hP.sub (ws' := []) [] rfl
  have hKc := hK.sub (tys' := []) [] rfl
  refine va_callv (va_runIN (As := []) (rest := [.ref q_101, .int 17, .ref q_3]) ⟨hx, hb, hml, hown, hts⟩ (fX7_init l dC dI q_101) (⟨va_cnB 0 hts (gz_gP mGA_93 goodGA) rfl rfl rfl (nzA_X0_30 hz) (hts _ (List.mem_cons_of_mem _ mGA_92)) (by decide +kernel) ⟨Nat.le_of_ble_eq_true rfl, Nat.le_of_ble_eq_true rfl⟩, rfl, (hts _ (List.mem_cons_of_mem _ mGA_94))⟩) ⟨fun a U g mk q => by obtain ⟨q0, qP, qK⟩ := q; exact ⟨q0, qP, va_K.moved (u := U) (U := U.calling g mk a) (Vm.Alike.refl U.vm) qK⟩, fun U hU hW => ⟨rfl, by rw [hU]; exact hPc, va_K.moved hW.alike hKc⟩⟩ rfl rfl hl.1 rfl (lv_room (Nat.le_of_ble_eq_true rfl)) dX0_init_75 ⟨Nat.le_of_ble_eq_true rfl, Nat.le_of_ble_eq_true rfl⟩) hS (fun q _ h => h.elim) (fun q h => h.elim) (fun  u t H1 locs ht hvm hw hB hz1 hk1 hS => ?_)
  have hP := gz_keep hP hk1
  generalize H1 = H at hP hS ⊢
  refine va_astq hx hb hK hP hD hS 2 1 4 7 rfl rfl rfl rfl (by unfold vp_in; decide) dX0_init_78 (fun H locs hP hD hS => ?_)
  have hP : va_P (dC, dI) vwCl [(h0, .inr (0, [.int 0, .int 0, .int 0, .int 0, .int 0, .int 0, .int 0, .int 0, .int 0, .int 0, .ref q_1, .ref q_3, .ref q_5])), (q_1, .inl (k_2, 6, .inr (.inr (.inr (.inr f_30))))), (q_3, .inl (k_4, 24, .inr (.inr (.inr (.inr (va_up f_99 (17 : Int32).toNatClampNeg (some q_101))))))), (q_5, .inl (k_6, 8, .inr (.inr (.inr (.inr (fun _ => none)))))), (q_101, .inr (7, [.int 0, .int 0, .int 0, .int 0, .int 0, .int 0]))] H := hP
  have hD : va_D A [(h0, .inr (0, [.int 0, .int 0, .int 0, .int 0, .int 0, .int 0, .int 0, .int 0, .int 0, .int 0, .ref q_1, .ref q_3, .ref q_5])), (q_1, .inl (k_2, 6, .inr (.inr (.inr (.inr f_30))))), (q_3, .inl (k_4, 24, .inr (.inr (.inr (.inr (va_up f_99 (17 : Int32).toNatClampNeg (some q_101))))))), (q_5, .inl (k_6, 8, .inr (.inr (.inr (.inr (fun _ => none)))))), (q_101, .inr (7, [.int 0, .int 0, .int 0, .int 0, .int 0, .int 0]))] := hD
  generalize va_up f_99 (17 : Int32).toNatClampNeg (some q_101) = f_103 at hP hD
  have hP := hP.sub (ws' := [(h0, .inr (0, [.int 0, .int 0, .int 0, .int 0, .int 0, .int 0, .int 0, .int 0, .int 0, .int 0, .ref q_1, .ref q_3, .ref q_5])), (q_1, .inl (k_2, 6, .inr (.inr (.inr (.inr f_30))))), (q_3, .inl (k_4, 24, .inr (.inr (.inr (.inr f_103))))), (q_5, .inl (k_6, 8, .inr (.inr (.inr (.inr (fun _ => none))))))]) [0, 1, 2, 3] rfl
  have hD := hD.sub (ws' := [(h0, .inr (0, [.int 0, .int 0, .int 0, .int 0, .int 0, .int 0, .int 0, .int 0, .int 0, .int 0, .ref q_1, .ref q_3, .ref q_5])), (q_1, .inl (k_2, 6, .inr (.inr (.inr (.inr f_30))))), (q_3, .inl (k_4, 24, .inr (.inr (.inr (.inr f_103))))), (q_5, .inl (k_6, 8, .inr (.inr (.inr (.inr (fun _ => none))))))]) [0, 1, 2, 3] (by decide) rfl
  refine lv_iinc (v := 18) (lv' := [(1, .int 18), (0, .ref h0)]) hx hb dX0_init_79 hl (k := 0) rfl (by decide) (by decide) rfl (fun ls hl => ?_)
  refine lv_goto (tgt := 60) hx hb dX0_init_82 (by decide) ?_
  refine lv_iload_n hx hb dX0_init_60 rfl (lv_at hl 0 rfl) ?_
  refine lv_bipush (v := 24) hx hb dX0_init_61 (by decide) ?_
  refine lv_icmp_ge (tgt := 85) hx hb dX0_init_63 (by decide) (fun c_104 => absurd c_104 (by decide)) (fun c_104 => ?_)
  refine lv_aload_n hx hb dX0_init_66 rfl (lv_at hl 1 rfl) ?_
  refine va_get (D := (dC, dI)) (ci := 0) (v := .ref q_3) (C := RX0) (T := TX0) (N := 13) hx hb hts (fun w h => List.mem_cons_of_mem _ (jnGA_X0 w h)) hown hK hP 0 rfl rfl 11 (by decide) (hts _ (List.mem_cons_of_mem _ mGA_84)) (fun _ h9 => h9) rfl dX0_init_67 ?_
  refine lv_iload_n hx hb dX0_init_70 rfl (lv_at hl 0 rfl) ?_
  refine va_new (ci := 7) (fs := [.int 0, .int 0, .int 0, .int 0, .int 0, .int 0]) (C := RX7) (T := TX7) (N := 6) hx hb hts (fun w h => List.mem_cons_of_mem _ (jnGA_X7 w h)) tyX7 tyX7_ok hown (hts _ (List.mem_cons_of_mem _ mGA_83)) (hts _ (List.mem_cons_of_mem _ mGA_91)) (hts _ (List.mem_cons_of_mem _ mGA_92)) hK hP hD hS hA rfl dfX7 (Nat.le_of_ble_eq_true rfl) (Nat.le_of_ble_eq_true rfl) dX0_init_71 (fun q_105 H hP hD hS => ?_)
  have hP : va_P (dC, dI) vwCl [(h0, .inr (0, [.int 0, .int 0, .int 0, .int 0, .int 0, .int 0, .int 0, .int 0, .int 0, .int 0, .ref q_1, .ref q_3, .ref q_5])), (q_1, .inl (k_2, 6, .inr (.inr (.inr (.inr f_30))))), (q_3, .inl (k_4, 24, .inr (.inr (.inr (.inr f_103))))), (q_5, .inl (k_6, 8, .inr (.inr (.inr (.inr (fun _ => none)))))), (q_105, .inr (7, [.int 0, .int 0, .int 0, .int 0, .int 0, .int 0]))] H := hP
  have hD : va_D A [(h0, .inr (0, [.int 0, .int 0, .int 0, .int 0, .int 0, .int 0, .int 0, .int 0, .int 0, .int 0, .ref q_1, .ref q_3, .ref q_5])), (q_1, .inl (k_2, 6, .inr (.inr (.inr (.inr f_30))))), (q_3, .inl (k_4, 24, .inr (.inr (.inr (.inr f_103))))), (q_5, .inl (k_6, 8, .inr (.inr (.inr (.inr (fun _ => none)))))), (q_105, .inr (7, [.int 0, .int 0, .int 0, .int 0, .int 0, .int 0]))] := hD
  refine W.widen (k := 28) (n := 164) (Nat.le_of_ble_eq_true rfl) (Nat.le_of_ble_eq_true rfl) ?_
  refine lv_dup hx hb dX0_init_74 rfl ?_
  have hPc := hP.sub (ws' := []) [] rfl
  have hKc := hK.sub (tys' := []) [] rfl
  refine va_callv (va_runIN (As := []) (rest := [.ref q_105, .int 18, .ref q_3]) ⟨hx, hb, hml, hown, hts⟩ (fX7_init l dC dI q_105) (⟨va_cnB 0 hts (gz_gP mGA_93 goodGA) rfl rfl rfl (nzA_X0_30 hz) (hts _ (List.mem_cons_of_mem _ mGA_92)) (by decide +kernel) ⟨Nat.le_of_ble_eq_true rfl, Nat.le_of_ble_eq_true rfl⟩, rfl, (hts _ (List.mem_cons_of_mem _ mGA_94))⟩) ⟨fun a U g mk q => by obtain ⟨q0, qP, qK⟩ := q; exact ⟨q0, qP, va_K.moved (u := U) (U := U.calling g mk a) (Vm.Alike.refl U.vm) qK⟩, fun U hU hW => ⟨rfl, by rw [hU]; exact hPc, va_K.moved hW.alike hKc⟩⟩ rfl rfl hl.1 rfl (lv_room (Nat.le_of_ble_eq_true rfl)) dX0_init_75 ⟨Nat.le_of_ble_eq_true rfl, Nat.le_of_ble_eq_true rfl⟩) hS (fun q _ h => h.elim) (fun q h => h.elim) (fun  u t H1 locs ht hvm hw hB hz1 hk1 hS => ?_)
  have hP := gz_keep hP hk1
  generalize H1 = H at hP hS ⊢
  refine va_astq hx hb hK hP hD hS 2 1 4 7 rfl rfl rfl rfl (by unfold vp_in; decide) dX0_init_78 (fun H locs hP hD hS => ?_)
  have hP : va_P (dC, dI) vwCl [(h0, .inr (0, [.int 0, .int 0, .int 0, .int 0, .int 0, .int 0, .int 0, .int 0, .int 0, .int 0, .ref q_1, .ref q_3, .ref q_5])), (q_1, .inl (k_2, 6, .inr (.inr (.inr (.inr f_30))))), (q_3, .inl (k_4, 24, .inr (.inr (.inr (.inr (va_up f_103 (18 : Int32).toNatClampNeg (some q_105))))))), (q_5, .inl (k_6, 8, .inr (.inr (.inr (.inr (fun _ => none)))))), (q_105, .inr (7, [.int 0, .int 0, .int 0, .int 0, .int 0, .int 0]))] H := hP
  have hD : va_D A [(h0, .inr (0, [.int 0, .int 0, .int 0, .int 0, .int 0, .int 0, .int 0, .int 0, .int 0, .int 0, .ref q_1, .ref q_3, .ref q_5])), (q_1, .inl (k_2, 6, .inr (.inr (.inr (.inr f_30))))), (q_3, .inl (k_4, 24, .inr (.inr (.inr (.inr (va_up f_103 (18 : Int32).toNatClampNeg (some q_105))))))), (q_5, .inl (k_6, 8, .inr (.inr (.inr (.inr (fun _ => none)))))), (q_105, .inr (7, [.int 0, .int 0, .int 0, .int 0, .int 0, .int 0]))] := hD
  generalize va_up f_103 (18 : Int32).toNatClampNeg (some q_105) = f_107 at hP hD
  have hP := hP.sub (ws' := [(h0, .inr (0, [.int 0, .int 0, .int 0, .int 0, .int 0, .int 0, .int 0, .int 0, .int 0, .int 0, .ref q_1, .ref q_3, .ref q_5])), (q_1, .inl (k_2, 6, .inr (.inr (.inr (.inr f_30))))), (q_3, .inl (k_4, 24, .inr (.inr (.inr (.inr f_107))))), (q_5, .inl (k_6, 8, .inr (.inr (.inr (.inr (fun _ => none))))))]) [0, 1, 2, 3] rfl
  have hD := hD.sub (ws' := [(h0, .inr (0, [.int 0, .int 0, .int 0, .int 0, .int 0, .int 0, .int 0, .int 0, .int 0, .int 0, .ref q_1, .ref q_3, .ref q_5])), (q_1, .inl (k_2, 6, .inr (.inr (.inr (.inr f_30))))), (q_3, .inl (k_4, 24, .inr (.inr (.inr (.inr f_107))))), (q_5, .inl (k_6, 8, .inr (.inr (.inr (.inr (fun _ => none))))))]) [0, 1, 2, 3] (by decide) rfl
  refine lv_iinc (v := 19) (lv' := [(1, .int 19), (0, .ref h0)]) hx hb dX0_init_79 hl (k := 0) rfl (by decide) (by decide) rfl (fun ls hl => ?_)
  refine lv_goto (tgt := 60) hx hb dX0_init_82 (by decide) ?_
  refine lv_iload_n hx hb dX0_init_60 rfl (lv_at hl 0 rfl) ?_
  refine lv_bipush (v := 24) hx hb dX0_init_61 (by decide) ?_
  refine lv_icmp_ge (tgt := 85) hx hb dX0_init_63 (by decide) (fun c_108 => absurd c_108 (by decide)) (fun c_108 => ?_)
  refine lv_aload_n hx hb dX0_init_66 rfl (lv_at hl 1 rfl) ?_
  refine va_get (D := (dC, dI)) (ci := 0) (v := .ref q_3) (C := RX0) (T := TX0) (N := 13) hx hb hts (fun w h => List.mem_cons_of_mem _ (jnGA_X0 w h)) hown hK hP 0 rfl rfl 11 (by decide) (hts _ (List.mem_cons_of_mem _ mGA_84)) (fun _ h9 => h9) rfl dX0_init_67 ?_
  refine lv_iload_n hx hb dX0_init_70 rfl (lv_at hl 0 rfl) ?_
  refine va_new (ci := 7) (fs := [.int 0, .int 0, .int 0, .int 0, .int 0, .int 0]) (C := RX7) (T := TX7) (N := 6) hx hb hts (fun w h => List.mem_cons_of_mem _ (jnGA_X7 w h)) tyX7 tyX7_ok hown (hts _ (List.mem_cons_of_mem _ mGA_83)) (hts _ (List.mem_cons_of_mem _ mGA_91)) (hts _ (List.mem_cons_of_mem _ mGA_92)) hK hP hD hS hA rfl dfX7 (Nat.le_of_ble_eq_true rfl) (Nat.le_of_ble_eq_true rfl) dX0_init_71 (fun q_109 H hP hD hS => ?_)
  have hP : va_P (dC, dI) vwCl [(h0, .inr (0, [.int 0, .int 0, .int 0, .int 0, .int 0, .int 0, .int 0, .int 0, .int 0, .int 0, .ref q_1, .ref q_3, .ref q_5])), (q_1, .inl (k_2, 6, .inr (.inr (.inr (.inr f_30))))), (q_3, .inl (k_4, 24, .inr (.inr (.inr (.inr f_107))))), (q_5, .inl (k_6, 8, .inr (.inr (.inr (.inr (fun _ => none)))))), (q_109, .inr (7, [.int 0, .int 0, .int 0, .int 0, .int 0, .int 0]))] H := hP
  have hD : va_D A [(h0, .inr (0, [.int 0, .int 0, .int 0, .int 0, .int 0, .int 0, .int 0, .int 0, .int 0, .int 0, .ref q_1, .ref q_3, .ref q_5])), (q_1, .inl (k_2, 6, .inr (.inr (.inr (.inr f_30))))), (q_3, .inl (k_4, 24, .inr (.inr (.inr (.inr f_107))))), (q_5, .inl (k_6, 8, .inr (.inr (.inr (.inr (fun _ => none)))))), (q_109, .inr (7, [.int 0, .int 0, .int 0, .int 0, .int 0, .int 0]))] := hD
  refine W.widen (k := 29) (n := 170) (Nat.le_of_ble_eq_true rfl) (Nat.le_of_ble_eq_true rfl) ?_
  refine lv_dup hx hb dX0_init_74 rfl ?_
  have hPc := hP.sub (ws' := []) [] rfl
  have hKc := hK.sub (tys' := []) [] rfl
  refine va_callv (va_runIN (As := []) (rest := [.ref q_109, .int 19, .ref q_3]) ⟨hx, hb, hml, hown, hts⟩ (fX7_init l dC dI q_109) (⟨va_cnB 0 hts (gz_gP mGA_93 goodGA) rfl rfl rfl (nzA_X0_30 hz) (hts _ (List.mem_cons_of_mem _ mGA_92)) (by decide +kernel) ⟨Nat.le_of_ble_eq_true rfl, Nat.le_of_ble_eq_true rfl⟩, rfl, (hts _ (List.mem_cons_of_mem _ mGA_94))⟩) ⟨fun a U g mk q => by obtain ⟨q0, qP, qK⟩ := q; exact ⟨q0, qP, va_K.moved (u := U) (U := U.calling g mk a) (Vm.Alike.refl U.vm) qK⟩, fun U hU hW => ⟨rfl, by rw [hU]; exact hPc, va_K.moved hW.alike hKc⟩⟩ rfl rfl hl.1 rfl (lv_room (Nat.le_of_ble_eq_true rfl)) dX0_init_75 ⟨Nat.le_of_ble_eq_true rfl, Nat.le_of_ble_eq_true rfl⟩) hS (fun q _ h => h.elim) (fun q h => h.elim) (fun  u t H1 locs ht hvm hw hB hz1 hk1 hS => ?_)
  have hP := gz_keep hP hk1
  generalize H1 = H at hP hS ⊢
  refine va_astq hx hb hK hP hD hS 2 1 4 7 rfl rfl rfl rfl (by unfold vp_in; decide) dX0_init_78 (fun H locs hP hD hS => ?_)
  have hP : va_P (dC, dI) vwCl [(h0, .inr (0, [.int 0, .int 0, .int 0, .int 0, .int 0, .int 0, .int 0, .int 0, .int 0, .int 0, .ref q_1, .ref q_3, .ref q_5])), (q_1, .inl (k_2, 6, .inr (.inr (.inr (.inr f_30))))), (q_3, .inl (k_4, 24, .inr (.inr (.inr (.inr (va_up f_107 (19 : Int32).toNatClampNeg (some q_109))))))), (q_5, .inl (k_6, 8, .inr (.inr (.inr (.inr (fun _ => none)))))), (q_109, .inr (7, [.int 0, .int 0, .int 0, .int 0, .int 0, .int 0]))] H := hP
  have hD : va_D A [(h0, .inr (0, [.int 0, .int 0, .int 0, .int 0, .int 0, .int 0, .int 0, .int 0, .int 0, .int 0, .ref q_1, .ref q_3, .ref q_5])), (q_1, .inl (k_2, 6, .inr (.inr (.inr (.inr f_30))))), (q_3, .inl (k_4, 24, .inr (.inr (.inr (.inr (va_up f_107 (19 : Int32).toNatClampNeg (some q_109))))))), (q_5, .inl (k_6, 8, .inr (.inr (.inr (.inr (fun _ => none)))))), (q_109, .inr (7, [.int 0, .int 0, .int 0, .int 0, .int 0, .int 0]))] := hD
  generalize va_up f_107 (19 : Int32).toNatClampNeg (some q_109) = f_111 at hP hD
  have hP := hP.sub (ws' := [(h0, .inr (0, [.int 0, .int 0, .int 0, .int 0, .int 0, .int 0, .int 0, .int 0, .int 0, .int 0, .ref q_1, .ref q_3, .ref q_5])), (q_1, .inl (k_2, 6, .inr (.inr (.inr (.inr f_30))))), (q_3, .inl (k_4, 24, .inr (.inr (.inr (.inr f_111))))), (q_5, .inl (k_6, 8, .inr (.inr (.inr (.inr (fun _ => none))))))]) [0, 1, 2, 3] rfl
  have hD := hD.sub (ws' := [(h0, .inr (0, [.int 0, .int 0, .int 0, .int 0, .int 0, .int 0, .int 0, .int 0, .int 0, .int 0, .ref q_1, .ref q_3, .ref q_5])), (q_1, .inl (k_2, 6, .inr (.inr (.inr (.inr f_30))))), (q_3, .inl (k_4, 24, .inr (.inr (.inr (.inr f_111))))), (q_5, .inl (k_6, 8, .inr (.inr (.inr (.inr (fun _ => none))))))]) [0, 1, 2, 3] (by decide) rfl
  refine lv_iinc (v := 20) (lv' := [(1, .int 20), (0, .ref h0)]) hx hb dX0_init_79 hl (k := 0) rfl (by decide) (by decide) rfl (fun ls hl => ?_)
  refine lv_goto (tgt := 60) hx hb dX0_init_82 (by decide) ?_
  refine lv_iload_n hx hb dX0_init_60 rfl (lv_at hl 0 rfl) ?_
  refine lv_bipush (v := 24) hx hb dX0_init_61 (by decide) ?_
  refine lv_icmp_ge (tgt := 85) hx hb dX0_init_63 (by decide) (fun c_112 => absurd c_112 (by decide)) (fun c_112 => ?_)
  refine lv_aload_n hx hb dX0_init_66 rfl (lv_at hl 1 rfl) ?_
  refine va_get (D := (dC, dI)) (ci := 0) (v := .ref q_3) (C := RX0) (T := TX0) (N := 13) hx hb hts (fun w h => List.mem_cons_of_mem _ (jnGA_X0 w h)) hown hK hP 0 rfl rfl 11 (by decide) (hts _ (List.mem_cons_of_mem _ mGA_84)) (fun _ h9 => h9) rfl dX0_init_67 ?_
  refine lv_iload_n hx hb dX0_init_70 rfl (lv_at hl 0 rfl) ?_
  refine va_new (ci := 7) (fs := [.int 0, .int 0, .int 0, .int 0, .int 0, .int 0]) (C := RX7) (T := TX7) (N := 6) hx hb hts (fun w h => List.mem_cons_of_mem _ (jnGA_X7 w h)) tyX7 tyX7_ok hown (hts _ (List.mem_cons_of_mem _ mGA_83)) (hts _ (List.mem_cons_of_mem _ mGA_91)) (hts _ (List.mem_cons_of_mem _ mGA_92)) hK hP hD hS hA rfl dfX7 (Nat.le_of_ble_eq_true rfl) (Nat.le_of_ble_eq_true rfl) dX0_init_71 (fun q_113 H hP hD hS => ?_)
  have hP : va_P (dC, dI) vwCl [(h0, .inr (0, [.int 0, .int 0, .int 0, .int 0, .int 0, .int 0, .int 0, .int 0, .int 0, .int 0, .ref q_1, .ref q_3, .ref q_5])), (q_1, .inl (k_2, 6, .inr (.inr (.inr (.inr f_30))))), (q_3, .inl (k_4, 24, .inr (.inr (.inr (.inr f_111))))), (q_5, .inl (k_6, 8, .inr (.inr (.inr (.inr (fun _ => none)))))), (q_113, .inr (7, [.int 0, .int 0, .int 0, .int 0, .int 0, .int 0]))] H := hP
  have hD : va_D A [(h0, .inr (0, [.int 0, .int 0, .int 0, .int 0, .int 0, .int 0, .int 0, .int 0, .int 0, .int 0, .ref q_1, .ref q_3, .ref q_5])), (q_1, .inl (k_2, 6, .inr (.inr (.inr (.inr f_30))))), (q_3, .inl (k_4, 24, .inr (.inr (.inr (.inr f_111))))), (q_5, .inl (k_6, 8, .inr (.inr (.inr (.inr (fun _ => none)))))), (q_113, .inr (7, [.int 0, .int 0, .int 0, .int 0, .int 0, .int 0]))] := hD
  refine W.widen (k := 30) (n := 176) (Nat.le_of_ble_eq_true rfl) (Nat.le_of_ble_eq_true rfl) ?_
  refine lv_dup hx hb dX0_init_74 rfl ?_
  have hPc := hP.sub (ws' := []) [] rfl
  have hKc := hK.sub (tys' := []) [] rfl
  refine va_callv (va_runIN (As := []) (rest := [.ref q_113, .int 20, .ref q_3]) ⟨hx, hb, hml, hown, hts⟩ (fX7_init l dC dI q_113) (⟨va_cnB 0 hts (gz_gP mGA_93 goodGA) rfl rfl rfl (nzA_X0_30 hz) (hts _ (List.mem_cons_of_mem _ mGA_92)) (by decide +kernel) ⟨Nat.le_of_ble_eq_true rfl, Nat.le_of_ble_eq_true rfl⟩, rfl, (hts _ (List.mem_cons_of_mem _ mGA_94))⟩) ⟨fun a U g mk q => by obtain ⟨q0, qP, qK⟩ := q; exact ⟨q0, qP, va_K.moved (u := U) (U := U.calling g mk a) (Vm.Alike.refl U.vm) qK⟩, fun U hU hW => ⟨rfl, by rw [hU]; exact hPc, va_K.moved hW.alike hKc⟩⟩ rfl rfl hl.1 rfl (lv_room (Nat.le_of_ble_eq_true rfl)) dX0_init_75 ⟨Nat.le_of_ble_eq_true rfl, Nat.le_of_ble_eq_true rfl⟩) hS (fun q _ h => h.elim) (fun q h => h.elim) (fun  u t H1 locs ht hvm hw hB hz1 hk1 hS => ?_)
  have hP := gz_keep hP hk1
  generalize H1 = H at hP hS ⊢
  refine va_astq hx hb hK hP hD hS 2 1 4 7 rfl rfl rfl rfl (by unfold vp_in; decide) dX0_init_78 (fun H locs hP hD hS => ?_)
  have hP : va_P (dC, dI) vwCl [(h0, .inr (0, [.int 0, .int 0, .int 0, .int 0, .int 0, .int 0, .int 0, .int 0, .int 0, .int 0, .ref q_1, .ref q_3, .ref q_5])), (q_1, .inl (k_2, 6, .inr (.inr (.inr (.inr f_30))))), (q_3, .inl (k_4, 24, .inr (.inr (.inr (.inr (va_up f_111 (20 : Int32).toNatClampNeg (some q_113))))))), (q_5, .inl (k_6, 8, .inr (.inr (.inr (.inr (fun _ => none)))))), (q_113, .inr (7, [.int 0, .int 0, .int 0, .int 0, .int 0, .int 0]))] H := hP
  have hD : va_D A [(h0, .inr (0, [.int 0, .int 0, .int 0, .int 0, .int 0, .int 0, .int 0, .int 0, .int 0, .int 0, .ref q_1, .ref q_3, .ref q_5])), (q_1, .inl (k_2, 6, .inr (.inr (.inr (.inr f_30))))), (q_3, .inl (k_4, 24, .inr (.inr (.inr (.inr (va_up f_111 (20 : Int32).toNatClampNeg (some q_113))))))), (q_5, .inl (k_6, 8, .inr (.inr (.inr (.inr (fun _ => none)))))), (q_113, .inr (7, [.int 0, .int 0, .int 0, .int 0, .int 0, .int 0]))] := hD
  generalize va_up f_111 (20 : Int32).toNatClampNeg (some q_113) = f_115 at hP hD
  have hP := hP.sub (ws' := [(h0, .inr (0, [.int 0, .int 0, .int 0, .int 0, .int 0, .int 0, .int 0, .int 0, .int 0, .int 0, .ref q_1, .ref q_3, .ref q_5])), (q_1, .inl (k_2, 6, .inr (.inr (.inr (.inr f_30))))), (q_3, .inl (k_4, 24, .inr (.inr (.inr (.inr f_115))))), (q_5, .inl (k_6, 8, .inr (.inr (.inr (.inr (fun _ => none))))))]) [0, 1, 2, 3] rfl
  have hD := hD.sub (ws' := [(h0, .inr (0, [.int 0, .int 0, .int 0, .int 0, .int 0, .int 0, .int 0, .int 0, .int 0, .int 0, .ref q_1, .ref q_3, .ref q_5])), (q_1, .inl (k_2, 6, .inr (.inr (.inr (.inr f_30))))), (q_3, .inl (k_4, 24, .inr (.inr (.inr (.inr f_115))))), (q_5, .inl (k_6, 8, .inr (.inr (.inr (.inr (fun _ => none))))))]) [0, 1, 2, 3] (by decide) rfl
  refine lv_iinc (v := 21) (lv' := [(1, .int 21), (0, .ref h0)]) hx hb dX0_init_79 hl (k := 0) rfl (by decide) (by decide) rfl (fun ls hl => ?_)
  refine lv_goto (tgt := 60) hx hb dX0_init_82 (by decide) ?_
  refine lv_iload_n hx hb dX0_init_60 rfl (lv_at hl 0 rfl) ?_
  refine lv_bipush (v := 24) hx hb dX0_init_61 (by decide) ?_
  refine lv_icmp_ge (tgt := 85) hx hb dX0_init_63 (by decide) (fun c_116 => absurd c_116 (by decide)) (fun c_116 => ?_)
  refine lv_aload_n hx hb dX0_init_66 rfl (lv_at hl 1 rfl) ?_
  refine va_get (D := (dC, dI)) (ci := 0) (v := .ref q_3) (C := RX0) (T := TX0) (N := 13) hx hb hts (fun w h => List.mem_cons_of_mem _ (jnGA_X0 w h)) hown hK hP 0 rfl rfl 11 (by decide) (hts _ (List.mem_cons_of_mem _ mGA_84)) (fun _ h9 => h9) rfl dX0_init_67 ?_
  refine lv_iload_n hx hb dX0_init_70 rfl (lv_at hl 0 rfl) ?_
  refine va_new (ci := 7) (fs := [.int 0, .int 0, .int 0, .int 0, .int 0, .int 0]) (C := RX7) (T := TX7) (N := 6) hx hb hts (fun w h => List.mem_cons_of_mem _ (jnGA_X7 w h)) tyX7 tyX7_ok hown (hts _ (List.mem_cons_of_mem _ mGA_83)) (hts _ (List.mem_cons_of_mem _ mGA_91)) (hts _ (List.mem_cons_of_mem _ mGA_92)) hK hP hD hS hA rfl dfX7 (Nat.le_of_ble_eq_true rfl) (Nat.le_of_ble_eq_true rfl) dX0_init_71 (fun q_117 H hP hD hS => ?_)
  have hP : va_P (dC, dI) vwCl [(h0, .inr (0, [.int 0, .int 0, .int 0, .int 0, .int 0, .int 0, .int 0, .int 0, .int 0, .int 0, .ref q_1, .ref q_3, .ref q_5])), (q_1, .inl (k_2, 6, .inr (.inr (.inr (.inr f_30))))), (q_3, .inl (k_4, 24, .inr (.inr (.inr (.inr f_115))))), (q_5, .inl (k_6, 8, .inr (.inr (.inr (.inr (fun _ => none)))))), (q_117, .inr (7, [.int 0, .int 0, .int 0, .int 0, .int 0, .int 0]))] H := hP
  have hD : va_D A [(h0, .inr (0, [.int 0, .int 0, .int 0, .int 0, .int 0, .int 0, .int 0, .int 0, .int 0, .int 0, .ref q_1, .ref q_3, .ref q_5])), (q_1, .inl (k_2, 6, .inr (.inr (.inr (.inr f_30))))), (q_3, .inl (k_4, 24, .inr (.inr (.inr (.inr f_115))))), (q_5, .inl (k_6, 8, .inr (.inr (.inr (.inr (fun _ => none)))))), (q_117, .inr (7, [.int 0, .int 0, .int 0, .int 0, .int 0, .int 0]))] := hD
  refine W.widen (k := 31) (n := 182) (Nat.le_of_ble_eq_true rfl) (Nat.le_of_ble_eq_true rfl) ?_
  refine lv_dup hx hb dX0_init_74 rfl ?_
  have hPc := hP.sub (ws' := []) [] rfl
  have hKc := hK.sub (tys' := []) [] rfl
  refine va_callv (va_runIN (As := []) (rest := [.ref q_117, .int 21, .ref q_3]) ⟨hx, hb, hml, hown, hts⟩ (fX7_init l dC dI q_117) (⟨va_cnB 0 hts (gz_gP mGA_93 goodGA) rfl rfl rfl (nzA_X0_30 hz) (hts _ (List.mem_cons_of_mem _ mGA_92)) (by decide +kernel) ⟨Nat.le_of_ble_eq_true rfl, Nat.le_of_ble_eq_true rfl⟩, rfl, (hts _ (List.mem_cons_of_mem _ mGA_94))⟩) ⟨fun a U g mk q => by obtain ⟨q0, qP, qK⟩ := q; exact ⟨q0, qP, va_K.moved (u := U) (U := U.calling g mk a) (Vm.Alike.refl U.vm) qK⟩, fun U hU hW => ⟨rfl, by rw [hU]; exact hPc, va_K.moved hW.alike hKc⟩⟩ rfl rfl hl.1 rfl (lv_room (Nat.le_of_ble_eq_true rfl)) dX0_init_75 ⟨Nat.le_of_ble_eq_true rfl, Nat.le_of_ble_eq_true rfl⟩) hS (fun q _ h => h.elim) (fun q h => h.elim) (fun  u t H1 locs ht hvm hw hB hz1 hk1 hS => ?_)
  have hP := gz_keep hP hk1
  generalize H1 = H at hP hS ⊢
  refine va_astq hx hb hK hP hD hS 2 1 4 7 rfl rfl rfl rfl (by unfold vp_in; decide) dX0_init_78 (fun H locs hP hD hS => ?_)
  have hP : va_P (dC, dI) vwCl [(h0, .inr (0, [.int 0, .int 0, .int 0, .int 0, .int 0, .int 0, .int 0, .int 0, .int 0, .int 0, .ref q_1, .ref q_3, .ref q_5])), (q_1, .inl (k_2, 6, .inr (.inr (.inr (.inr f_30))))), (q_3, .inl (k_4, 24, .inr (.inr (.inr (.inr (va_up f_115 (21 : Int32).toNatClampNeg (some q_117))))))), (q_5, .inl (k_6, 8, .inr (.inr (.inr (.inr (fun _ => none)))))), (q_117, .inr (7, [.int 0, .int 0, .int 0, .int 0, .int 0, .int 0]))] H := hP
  have hD : va_D A [(h0, .inr (0, [.int 0, .int 0, .int 0, .int 0, .int 0, .int 0, .int 0, .int 0, .int 0, .int 0, .ref q_1, .ref q_3, .ref q_5])), (q_1, .inl (k_2, 6, .inr (.inr (.inr (.inr f_30))))), (q_3, .inl (k_4, 24, .inr (.inr (.inr (.inr (va_up f_115 (21 : Int32).toNatClampNeg (some q_117))))))), (q_5, .inl (k_6, 8, .inr (.inr (.inr (.inr (fun _ => none)))))), (q_117, .inr (7, [.int 0, .int 0, .int 0, .int 0, .int 0, .int 0]))] := hD
  generalize va_up f_115 (21 : Int32).toNatClampNeg (some q_117) = f_119 at hP hD
  have hP := hP.sub (ws' := [(h0, .inr (0, [.int 0, .int 0, .int 0, .int 0, .int 0, .int 0, .int 0, .int 0, .int 0, .int 0, .ref q_1, .ref q_3, .ref q_5])), (q_1, .inl (k_2, 6, .inr (.inr (.inr (.inr f_30))))), (q_3, .inl (k_4, 24, .inr (.inr (.inr (.inr f_119))))), (q_5, .inl (k_6, 8, .inr (.inr (.inr (.inr (fun _ => none))))))]) [0, 1, 2, 3] rfl
  have hD := hD.sub (ws' := [(h0, .inr (0, [.int 0, .int 0, .int 0, .int 0, .int 0, .int 0, .int 0, .int 0, .int 0, .int 0, .ref q_1, .ref q_3, .ref q_5])), (q_1, .inl (k_2, 6, .inr (.inr (.inr (.inr f_30))))), (q_3, .inl (k_4, 24, .inr (.inr (.inr (.inr f_119))))), (q_5, .inl (k_6, 8, .inr (.inr (.inr (.inr (fun _ => none))))))]) [0, 1, 2, 3] (by decide) rfl
  refine lv_iinc (v := 22) (lv' := [(1, .int 22), (0, .ref h0)]) hx hb dX0_init_79 hl (k := 0) rfl (by decide) (by decide) rfl (fun ls hl => ?_)
  refine lv_goto (tgt := 60) hx hb dX0_init_82 (by decide) ?_
  refine lv_iload_n hx hb dX0_init_60 rfl (lv_at hl 0 rfl) ?_
  refine lv_bipush (v := 24) hx hb dX0_init_61 (by decide) ?_
  refine lv_icmp_ge (tgt := 85) hx hb dX0_init_63 (by decide) (fun c_120 => absurd c_120 (by decide)) (fun c_120 => ?_)
  refine lv_aload_n hx hb dX0_init_66 rfl (lv_at hl 1 rfl) ?_
  refine va_get (D := (dC, dI)) (ci := 0) (v := .ref q_3) (C := RX0) (T := TX0) (N := 13) hx hb hts (fun w h => List.mem_cons_of_mem _ (jnGA_X0 w h)) hown hK hP 0 rfl rfl 11 (by decide) (hts _ (List.mem_cons_of_mem _ mGA_84)) (fun _ h9 => h9) rfl dX0_init_67 ?_
  refine lv_iload_n hx hb dX0_init_70 rfl (lv_at hl 0 rfl) ?_
  refine va_new (ci := 7) (fs := [.int 0, .int 0, .int 0, .int 0, .int 0, .int 0]) (C := RX7) (T := TX7) (N := 6) hx hb hts (fun w h => List.mem_cons_of_mem _ (jnGA_X7 w h)) tyX7 tyX7_ok hown (hts _ (List.mem_cons_of_mem _ mGA_83)) (hts _ (List.mem_cons_of_mem _ mGA_91)) (hts _ (List.mem_cons_of_mem _ mGA_92)) hK hP hD hS hA rfl dfX7 (Nat.le_of_ble_eq_true rfl) (Nat.le_of_ble_eq_true rfl) dX0_init_71 (fun q_121 H hP hD hS => ?_)
  have hP : va_P (dC, dI) vwCl [(h0, .inr (0, [.int 0, .int 0, .int 0, .int 0, .int 0, .int 0, .int 0, .int 0, .int 0, .int 0, .ref q_1, .ref q_3, .ref q_5])), (q_1, .inl (k_2, 6, .inr (.inr (.inr (.inr f_30))))), (q_3, .inl (k_4, 24, .inr (.inr (.inr (.inr f_119))))), (q_5, .inl (k_6, 8, .inr (.inr (.inr (.inr (fun _ => none)))))), (q_121, .inr (7, [.int 0, .int 0, .int 0, .int 0, .int 0, .int 0]))] H := hP
  have hD : va_D A [(h0, .inr (0, [.int 0, .int 0, .int 0, .int 0, .int 0, .int 0, .int 0, .int 0, .int 0, .int 0, .ref q_1, .ref q_3, .ref q_5])), (q_1, .inl (k_2, 6, .inr (.inr (.inr (.inr f_30))))), (q_3, .inl (k_4, 24, .inr (.inr (.inr (.inr f_119))))), (q_5, .inl (k_6, 8, .inr (.inr (.inr (.inr (fun _ => none)))))), (q_121, .inr (7, [.int 0, .int 0, .int 0, .int 0, .int 0, .int 0]))] := hD
  refine W.widen (k := 32) (n := 188) (Nat.le_of_ble_eq_true rfl) (Nat.le_of_ble_eq_true rfl) ?_
  refine lv_dup hx hb dX0_init_74 rfl ?_
  have hPc := hP.sub (ws' := []) [] rfl
  have hKc := hK.sub (tys' := []) [] rfl
  refine va_callv (va_runIN (As := []) (rest := [.ref q_121, .int 22, .ref q_3]) ⟨hx, hb, hml, hown, hts⟩ (fX7_init l dC dI q_121) (⟨va_cnB 0 hts (gz_gP mGA_93 goodGA) rfl rfl rfl (nzA_X0_30 hz) (hts _ (List.mem_cons_of_mem _ mGA_92)) (by decide +kernel) ⟨Nat.le_of_ble_eq_true rfl, Nat.le_of_ble_eq_true rfl⟩, rfl, (hts _ (List.mem_cons_of_mem _ mGA_94))⟩) ⟨fun a U g mk q => by obtain ⟨q0, qP, qK⟩ := q; exact ⟨q0, qP, va_K.moved (u := U) (U := U.calling g mk a) (Vm.Alike.refl U.vm) qK⟩, fun U hU hW => ⟨rfl, by rw [hU]; exact hPc, va_K.moved hW.alike hKc⟩⟩ rfl rfl hl.1 rfl (lv_room (Nat.le_of_ble_eq_true rfl)) dX0_init_75 ⟨Nat.le_of_ble_eq_true rfl, Nat.le_of_ble_eq_true rfl⟩) hS (fun q _ h => h.elim) (fun q h => h.elim) (fun  u t H1 locs ht hvm hw hB hz1 hk1 hS => ?_)
  have hP := gz_keep hP hk1
  generalize H1 = H at hP hS ⊢
  refine va_astq hx hb hK hP hD hS 2 1 4 7 rfl rfl rfl rfl (by unfold vp_in; decide) dX0_init_78 (fun H locs hP hD hS => ?_)
  have hP : va_P (dC, dI) vwCl [(h0, .inr (0, [.int 0, .int 0, .int 0, .int 0, .int 0, .int 0, .int 0, .int 0, .int 0, .int 0, .ref q_1, .ref q_3, .ref q_5])), (q_1, .inl (k_2, 6, .inr (.inr (.inr (.inr f_30))))), (q_3, .inl (k_4, 24, .inr (.inr (.inr (.inr (va_up f_119 (22 : Int32).toNatClampNeg (some q_121))))))), (q_5, .inl (k_6, 8, .inr (.inr (.inr (.inr (fun _ => none)))))), (q_121, .inr (7, [.int 0, .int 0, .int 0, .int 0, .int 0, .int 0]))] H := hP
  have hD : va_D A [(h0, .inr (0, [.int 0, .int 0, .int 0, .int 0, .int 0, .int 0, .int 0, .int 0, .int 0, .int 0, .ref q_1, .ref q_3, .ref q_5])), (q_1, .inl (k_2, 6, .inr (.inr (.inr (.inr f_30))))), (q_3, .inl (k_4, 24, .inr (.inr (.inr (.inr (va_up f_119 (22 : Int32).toNatClampNeg (some q_121))))))), (q_5, .inl (k_6, 8, .inr (.inr (.inr (.inr (fun _ => none)))))), (q_121, .inr (7, [.int 0, .int 0, .int 0, .int 0, .int 0, .int 0]))] := hD
  generalize va_up f_119 (22 : Int32).toNatClampNeg (some q_121) = f_123 at hP hD
  have hP := hP.sub (ws' := [(h0, .inr (0, [.int 0, .int 0, .int 0, .int 0, .int 0, .int 0, .int 0, .int 0, .int 0, .int 0, .ref q_1, .ref q_3, .ref q_5])), (q_1, .inl (k_2, 6, .inr (.inr (.inr (.inr f_30))))), (q_3, .inl (k_4, 24, .inr (.inr (.inr (.inr f_123))))), (q_5, .inl (k_6, 8, .inr (.inr (.inr (.inr (fun _ => none))))))]) [0, 1, 2, 3] rfl
  have hD := hD.sub (ws' := [(h0, .inr (0, [.int 0, .int 0, .int 0, .int 0, .int 0, .int 0, .int 0, .int 0, .int 0, .int 0, .ref q_1, .ref q_3, .ref q_5])), (q_1, .inl (k_2, 6, .inr (.inr (.inr (.inr f_30))))), (q_3, .inl (k_4, 24, .inr (.inr (.inr (.inr f_123))))), (q_5, .inl (k_6, 8, .inr (.inr (.inr (.inr (fun _ => none))))))]) [0, 1, 2, 3] (by decide) rfl
  refine lv_iinc (v := 23) (lv' := [(1, .int 23), (0, .ref h0)]) hx hb dX0_init_79 hl (k := 0) rfl (by decide) (by decide) rfl (fun ls hl => ?_)
  refine lv_goto (tgt := 60) hx hb dX0_init_82 (by decide) ?_
  refine lv_iload_n hx hb dX0_init_60 rfl (lv_at hl 0 rfl) ?_
  refine lv_bipush (v := 24) hx hb dX0_init_61 (by decide) ?_
  refine lv_icmp_ge (tgt := 85) hx hb dX0_init_63 (by decide) (fun c_124 => absurd c_124 (by decide)) (fun c_124 => ?_)
  refine lv_aload_n hx hb dX0_init_66 rfl (lv_at hl 1 rfl) ?_
  refine va_get (D := (dC, dI)) (ci := 0) (v := .ref q_3) (C := RX0) (T := TX0) (N := 13) hx hb hts (fun w h => List.mem_cons_of_mem _ (jnGA_X0 w h)) hown hK hP 0 rfl rfl 11 (by decide) (hts _ (List.mem_cons_of_mem _ mGA_84)) (fun _ h9 => h9) rfl dX0_init_67 ?_
  refine lv_iload_n hx hb dX0_init_70 rfl (lv_at hl 0 rfl) ?_
  refine va_new (ci := 7) (fs := [.int 0, .int 0, .int 0, .int 0, .int 0, .int 0]) (C := RX7) (T := TX7) (N := 6) hx hb hts (fun w h => List.mem_cons_of_mem _ (jnGA_X7 w h)) tyX7 tyX7_ok hown (hts _ (List.mem_cons_of_mem _ mGA_83)) (hts _ (List.mem_cons_of_mem _ mGA_91)) (hts _ (List.mem_cons_of_mem _ mGA_92)) hK hP hD hS hA rfl dfX7 (Nat.le_of_ble_eq_true rfl) (Nat.le_of_ble_eq_true rfl) dX0_init_71 (fun q_125 H hP hD hS => ?_)
  have hP : va_P (dC, dI) vwCl [(h0, .inr (0, [.int 0, .int 0, .int 0, .int 0, .int 0, .int 0, .int 0, .int 0, .int 0, .int 0, .ref q_1, .ref q_3, .ref q_5])), (q_1, .inl (k_2, 6, .inr (.inr (.inr (.inr f_30))))), (q_3, .inl (k_4, 24, .inr (.inr (.inr (.inr f_123))))), (q_5, .inl (k_6, 8, .inr (.inr (.inr (.inr (fun _ => none)))))), (q_125, .inr (7, [.int 0, .int 0, .int 0, .int 0, .int 0, .int 0]))] H := hP
  have hD : va_D A [(h0, .inr (0, [.int 0, .int 0, .int 0, .int 0, .int 0, .int 0, .int 0, .int 0, .int 0, .int 0, .ref q_1, .ref q_3, .ref q_5])), (q_1, .inl (k_2, 6, .inr (.inr (.inr (.inr f_30))))), (q_3, .inl (k_4, 24, .inr (.inr (.inr (.inr f_123))))), (q_5, .inl (k_6, 8, .inr (.inr (.inr (.inr (fun _ => none)))))), (q_125, .inr (7, [.int 0, .int 0, .int 0, .int 0, .int 0, .int 0]))] := hD
  refine W.widen (k := 33) (n := 194) (Nat.le_of_ble_eq_true rfl) (Nat.le_of_ble_eq_true rfl) ?_
  refine lv_dup hx hb dX0_init_74 rfl ?_
  have hPc := hP.sub (ws' := []) [] rfl
  have hKc := hK.sub (tys' := []) [] rfl
  refine va_callv (va_runIN (As := []) (rest := [.ref q_125, .int 23, .ref q_3]) ⟨hx, hb, hml, hown, hts⟩ (fX7_init l dC dI q_125) (⟨va_cnB 0 hts (gz_gP mGA_93 goodGA) rfl rfl rfl (nzA_X0_30 hz) (hts _ (List.mem_cons_of_mem _ mGA_92)) (by decide +kernel) ⟨Nat.le_of_ble_eq_true rfl, Nat.le_of_ble_eq_true rfl⟩, rfl, (hts _ (List.mem_cons_of_mem _ mGA_94))⟩) ⟨fun a U g mk q => by obtain ⟨q0, qP, qK⟩ := q; exact ⟨q0, qP, va_K.moved (u := U) (U := U.calling g mk a) (Vm.Alike.refl U.vm) qK⟩, fun U hU hW => ⟨rfl, by rw [hU]; exact hPc, va_K.moved hW.alike hKc⟩⟩ rfl rfl hl.1 rfl (lv_room (Nat.le_of_ble_eq_true rfl)) dX0_init_75 ⟨Nat.le_of_ble_eq_true rfl, Nat.le_of_ble_eq_true rfl⟩) hS (fun q _ h => h.elim) (fun q h => h.elim) (fun  u t H1 locs ht hvm hw hB hz1 hk1 hS => ?_)
  have hP := gz_keep hP hk1
  generalize H1 = H at hP hS ⊢
  refine va_astq hx hb hK hP hD hS 2 1 4 7 rfl rfl rfl rfl (by unfold vp_in; decide) dX0_init_78 (fun H locs hP hD hS => ?_)
  have hP : va_P (dC, dI) vwCl [(h0, .inr (0, [.int 0, .int 0, .int 0, .int 0, .int 0, .int 0, .int 0, .int 0, .int 0, .int 0, .ref q_1, .ref q_3, .ref q_5])), (q_1, .inl (k_2, 6, .inr (.inr (.inr (.inr f_30))))), (q_3, .inl (k_4, 24, .inr (.inr (.inr (.inr (va_up f_123 (23 : Int32).toNatClampNeg (some q_125))))))), (q_5, .inl (k_6, 8, .inr (.inr (.inr (.inr (fun _ => none)))))), (q_125, .inr (7, [.int 0, .int 0, .int 0, .int 0, .int 0, .int 0]))] H := hP
  have hD : va_D A [(h0, .inr (0, [.int 0, .int 0, .int 0, .int 0, .int 0, .int 0, .int 0, .int 0, .int 0, .int 0, .ref q_1, .ref q_3, .ref q_5])), (q_1, .inl (k_2, 6, .inr (.inr (.inr (.inr f_30))))), (q_3, .inl (k_4, 24, .inr (.inr (.inr (.inr (va_up f_123 (23 : Int32).toNatClampNeg (some q_125))))))), (q_5, .inl (k_6, 8, .inr (.inr (.inr (.inr (fun _ => none)))))), (q_125, .inr (7, [.int 0, .int 0, .int 0, .int 0, .int 0, .int 0]))] := hD
  generalize va_up f_123 (23 : Int32).toNatClampNeg (some q_125) = f_127 at hP hD
  have hP := hP.sub (ws' := [(h0, .inr (0, [.int 0, .int 0, .int 0, .int 0, .int 0, .int 0, .int 0, .int 0, .int 0, .int 0, .ref q_1, .ref q_3, .ref q_5])), (q_1, .inl (k_2, 6, .inr (.inr (.inr (.inr f_30))))), (q_3, .inl (k_4, 24, .inr (.inr (.inr (.inr f_127))))), (q_5, .inl (k_6, 8, .inr (.inr (.inr (.inr (fun _ => none))))))]) [0, 1, 2, 3] rfl
  have hD := hD.sub (ws' := [(h0, .inr (0, [.int 0, .int 0, .int 0, .int 0, .int 0, .int 0, .int 0, .int 0, .int 0, .int 0, .ref q_1, .ref q_3, .ref q_5])), (q_1, .inl (k_2, 6, .inr (.inr (.inr (.inr f_30))))), (q_3, .inl (k_4, 24, .inr (.inr (.inr (.inr f_127))))), (q_5, .inl (k_6, 8, .inr (.inr (.inr (.inr (fun _ => none))))))]) [0, 1, 2, 3] (by decide) rfl
  refine lv_iinc (v := 24) (lv' := [(1, .int 24), (0, .ref h0)]) hx hb dX0_init_79 hl (k := 0) rfl (by decide) (by decide) rfl (fun ls hl => ?_)
  refine lv_goto (tgt := 60) hx hb dX0_init_82 (by decide) ?_
  refine lv_iload_n hx hb dX0_init_60 rfl (lv_at hl 0 rfl) ?_
  refine lv_bipush (v := 24) hx hb dX0_init_61 (by decide) ?_
  refine lv_icmp_ge (tgt := 85) hx hb dX0_init_63 (by decide) (fun c_128 => ?_) (fun c_128 => absurd (by decide) c_128)
  refine lv_iconst (v := 0) hx hb dX0_init_85 (by decide) ?_
  refine lv_istore_n (lv' := [(1, .int 0), (0, .ref h0)]) hx hb dX0_init_86 rfl hl (by decide) rfl (fun ls hl => ?_)
  refine lv_iload_n hx hb dX0_init_87 rfl (lv_at hl 0 rfl) ?_
  refine lv_bipush (v := 8) hx hb dX0_init_88 (by decide) ?_
  refine lv_icmp_ge (tgt := 112) hx hb dX0_init_90 (by decide) (fun c_129 => absurd c_129 (by decide)) (fun c_129 => ?_)
  refine lv_aload_n hx hb dX0_init_93 rfl (lv_at hl 1 rfl) ?_
  refine va_get (D := (dC, dI)) (ci := 0) (v := .ref q_5) (C := RX0) (T := TX0) (N := 13) hx hb hts (fun w h => List.mem_cons_of_mem _ (jnGA_X0 w h)) hown hK hP 0 rfl rfl 12 (by decide) (hts _ (List.mem_cons_of_mem _ mGA_86)) (fun _ h9 => h9) rfl dX0_init_94 ?_
  refine lv_iload_n hx hb dX0_init_97 rfl (lv_at hl 0 rfl) ?_
  refine va_new (ci := 2) (fs := [.int 0, .int 0, .int 0, .int 0]) (C := RX2) (T := TX2) (N := 4) hx hb hts (fun w h => List.mem_cons_of_mem _ (jnGA_X2 w h)) tyX2 tyX2_ok hown (hts _ (List.mem_cons_of_mem _ mGA_85)) (hts _ (List.mem_cons_of_mem _ mGA_95)) (hts _ (List.mem_cons_of_mem _ mGA_96)) hK hP hD hS hA rfl dfX2 (Nat.le_of_ble_eq_true rfl) (Nat.le_of_ble_eq_true rfl) dX0_init_98 (fun q_130 H hP hD hS => ?_)
  have hP : va_P (dC, dI) vwCl [(h0, .inr (0, [.int 0, .int 0, .int 0, .int 0, .int 0, .int 0, .int 0, .int 0, .int 0, .int 0, .ref q_1, .ref q_3, .ref q_5])), (q_1, .inl (k_2, 6, .inr (.inr (.inr (.inr f_30))))), (q_3, .inl (k_4, 24, .inr (.inr (.inr (.inr f_127))))), (q_5, .inl (k_6, 8, .inr (.inr (.inr (.inr (fun _ => none)))))), (q_130, .inr (2, [.int 0, .int 0, .int 0, .int 0]))] H := hP
  have hD : va_D A [(h0, .inr (0, [.int 0, .int 0, .int 0, .int 0, .int 0, .int 0, .int 0, .int 0, .int 0, .int 0, .ref q_1, .ref q_3, .ref q_5])), (q_1, .inl (k_2, 6, .inr (.inr (.inr (.inr f_30))))), (q_3, .inl (k_4, 24, .inr (.inr (.inr (.inr f_127))))), (q_5, .inl (k_6, 8, .inr (.inr (.inr (.inr (fun _ => none)))))), (q_130, .inr (2, [.int 0, .int 0, .int 0, .int 0]))] := hD
  refine W.widen (k := 34) (n := 198) (Nat.le_of_ble_eq_true rfl) (Nat.le_of_ble_eq_true rfl) ?_
  refine lv_dup hx hb dX0_init_101 rfl ?_
  have hPc := hP.sub (ws' := []) [] rfl
  have hKc := hK.sub (tys' := []) [] rfl
  refine va_callv (va_runIN (As := []) (rest := [.ref q_130, .int 0, .ref q_5]) ⟨hx, hb, hml, hown, hts⟩ (fX2_init l dC dI q_130) (⟨va_cnB 0 hts (gz_gP mGA_97 goodGA) rfl rfl rfl (nzA_X0_31 hz) (hts _ (List.mem_cons_of_mem _ mGA_96)) (by decide +kernel) ⟨Nat.le_of_ble_eq_true rfl, Nat.le_of_ble_eq_true rfl⟩, rfl, (hts _ (List.mem_cons_of_mem _ mGA_98))⟩) ⟨fun a U g mk q => by obtain ⟨q0, qP, qK⟩ := q; exact ⟨q0, qP, va_K.moved (u := U) (U := U.calling g mk a) (Vm.Alike.refl U.vm) qK⟩, fun U hU hW => ⟨rfl, by rw [hU]; exact hPc, va_K.moved hW.alike hKc⟩⟩ rfl rfl hl.1 rfl (lv_room (Nat.le_of_ble_eq_true rfl)) dX0_init_102 ⟨Nat.le_of_ble_eq_true rfl, Nat.le_of_ble_eq_true rfl⟩) hS (fun q _ h => h.elim) (fun q h => h.elim) (fun  u t H1 locs ht hvm hw hB hz1 hk1 hS => ?_)
  have hP := gz_keep hP hk1
  generalize H1 = H at hP hS ⊢
  refine va_astq hx hb hK hP hD hS 3 2 4 2 rfl rfl rfl rfl (by unfold vp_in; decide) dX0_init_105 (fun H locs hP hD hS => ?_)
  have hP : va_P (dC, dI) vwCl [(h0, .inr (0, [.int 0, .int 0, .int 0, .int 0, .int 0, .int 0, .int 0, .int 0, .int 0, .int 0, .ref q_1, .ref q_3, .ref q_5])), (q_1, .inl (k_2, 6, .inr (.inr (.inr (.inr f_30))))), (q_3, .inl (k_4, 24, .inr (.inr (.inr (.inr f_127))))), (q_5, .inl (k_6, 8, .inr (.inr (.inr (.inr (va_up (fun _ => none) (0 : Int32).toNatClampNeg (some q_130))))))), (q_130, .inr (2, [.int 0, .int 0, .int 0, .int 0]))] H := hP
  have hD : va_D A [(h0, .inr (0, [.int 0, .int 0, .int 0, .int 0, .int 0, .int 0, .int 0, .int 0, .int 0, .int 0, .ref q_1, .ref q_3, .ref q_5])), (q_1, .inl (k_2, 6, .inr (.inr (.inr (.inr f_30))))), (q_3, .inl (k_4, 24, .inr (.inr (.inr (.inr f_127))))), (q_5, .inl (k_6, 8, .inr (.inr (.inr (.inr (va_up (fun _ => none) (0 : Int32).toNatClampNeg (some q_130))))))), (q_130, .inr (2, [.int 0, .int 0, .int 0, .int 0]))] := hD
  generalize va_up (fun _ => none) (0 : Int32).toNatClampNeg (some q_130) = f_132 at hP hD
  have hP := hP.sub (ws' := [(h0, .inr (0, [.int 0, .int 0, .int 0, .int 0, .int 0, .int 0, .int 0, .int 0, .int 0, .int 0, .ref q_1, .ref q_3, .ref q_5])), (q_1, .inl (k_2, 6, .inr (.inr (.inr (.inr f_30))))), (q_3, .inl (k_4, 24, .inr (.inr (.inr (.inr f_127))))), (q_5, .inl (k_6, 8, .inr (.inr (.inr (.inr f_132)))))]) [0, 1, 2, 3] rfl
  have hD := hD.sub (ws' := [(h0, .inr (0, [.int 0, .int 0, .int 0, .int 0, .int 0, .int 0, .int 0, .int 0, .int 0, .int 0, .ref q_1, .ref q_3, .ref q_5])), (q_1, .inl (k_2, 6, .inr (.inr (.inr (.inr f_30))))), (q_3, .inl (k_4, 24, .inr (.inr (.inr (.inr f_127))))), (q_5, .inl (k_6, 8, .inr (.inr (.inr (.inr f_132)))))]) [0, 1, 2, 3] (by decide) rfl
  refine lv_iinc (v := 1) (lv' := [(1, .int 1), (0, .ref h0)]) hx hb dX0_init_106 hl (k := 0) rfl (by decide) (by decide) rfl (fun ls hl => ?_)
  refine lv_goto (tgt := 87) hx hb dX0_init_109 (by decide) ?_
  refine lv_iload_n hx hb dX0_init_87 rfl (lv_at hl 0 rfl) ?_
  refine lv_bipush (v := 8) hx hb dX0_init_88 (by decide) ?_
  refine lv_icmp_ge (tgt := 112) hx hb dX0_init_90 (by decide) (fun c_133 => absurd c_133 (by decide)) (fun c_133 => ?_)
  refine lv_aload_n hx hb dX0_init_93 rfl (lv_at hl 1 rfl) ?_
  refine va_get (D := (dC, dI)) (ci := 0) (v := .ref q_5) (C := RX0) (T := TX0) (N := 13) hx hb hts (fun w h => List.mem_cons_of_mem _ (jnGA_X0 w h)) hown hK hP 0 rfl rfl 12 (by decide) (hts _ (List.mem_cons_of_mem _ mGA_86)) (fun _ h9 => h9) rfl dX0_init_94 ?_
  refine lv_iload_n hx hb dX0_init_97 rfl (lv_at hl 0 rfl) ?_
  refine va_new (ci := 2) (fs := [.int 0, .int 0, .int 0, .int 0]) (C := RX2) (T := TX2) (N := 4) hx hb hts (fun w h => List.mem_cons_of_mem _ (jnGA_X2 w h)) tyX2 tyX2_ok hown (hts _ (List.mem_cons_of_mem _ mGA_85)) (hts _ (List.mem_cons_of_mem _ mGA_95)) (hts _ (List.mem_cons_of_mem _ mGA_96)) hK hP hD hS hA rfl dfX2 (Nat.le_of_ble_eq_true rfl) (Nat.le_of_ble_eq_true rfl) dX0_init_98 (fun q_134 H hP hD hS => ?_)
  have hP : va_P (dC, dI) vwCl [(h0, .inr (0, [.int 0, .int 0, .int 0, .int 0, .int 0, .int 0, .int 0, .int 0, .int 0, .int 0, .ref q_1, .ref q_3, .ref q_5])), (q_1, .inl (k_2, 6, .inr (.inr (.inr (.inr f_30))))), (q_3, .inl (k_4, 24, .inr (.inr (.inr (.inr f_127))))), (q_5, .inl (k_6, 8, .inr (.inr (.inr (.inr f_132))))), (q_134, .inr (2, [.int 0, .int 0, .int 0, .int 0]))] H := hP
  have hD : va_D A [(h0, .inr (0, [.int 0, .int 0, .int 0, .int 0, .int 0, .int 0, .int 0, .int 0, .int 0, .int 0, .ref q_1, .ref q_3, .ref q_5])), (q_1, .inl (k_2, 6, .inr (.inr (.inr (.inr f_30))))), (q_3, .inl (k_4, 24, .inr (.inr (.inr (.inr f_127))))), (q_5, .inl (k_6, 8, .inr (.inr (.inr (.inr f_132))))), (q_134, .inr (2, [.int 0, .int 0, .int 0, .int 0]))] := hD
  refine W.widen (k := 35) (n := 202) (Nat.le_of_ble_eq_true rfl) (Nat.le_of_ble_eq_true rfl) ?_
  refine lv_dup hx hb dX0_init_101 rfl ?_
  have hPc := hP.sub (ws' := []) [] rfl
  have hKc := hK.sub (tys' := []) [] rfl
  refine va_callv (va_runIN (As := []) (rest := [.ref q_134, .int 1, .ref q_5]) ⟨hx, hb, hml, hown, hts⟩ (fX2_init l dC dI q_134) (⟨va_cnB 0 hts (gz_gP mGA_97 goodGA) rfl rfl rfl (nzA_X0_31 hz) (hts _ (List.mem_cons_of_mem _ mGA_96)) (by decide +kernel) ⟨Nat.le_of_ble_eq_true rfl, Nat.le_of_ble_eq_true rfl⟩, rfl, (hts _ (List.mem_cons_of_mem _ mGA_98))⟩) ⟨fun a U g mk q => by obtain ⟨q0, qP, qK⟩ := q; exact ⟨q0, qP, va_K.moved (u := U) (U := U.calling g mk a) (Vm.Alike.refl U.vm) qK⟩, fun U hU hW => ⟨rfl, by rw [hU]; exact hPc, va_K.moved hW.alike hKc⟩⟩ rfl rfl hl.1 rfl (lv_room (Nat.le_of_ble_eq_true rfl)) dX0_init_102 ⟨Nat.le_of_ble_eq_true rfl, Nat.le_of_ble_eq_true rfl⟩) hS (fun q _ h => h.elim) (fun q h => h.elim) (fun  u t H1 locs ht hvm hw hB hz1 hk1 hS => ?_)
  have hP := gz_keep hP hk1
  generalize H1 = H at hP hS ⊢
  refine va_astq hx hb hK hP hD hS 3 2 4 2 rfl rfl rfl rfl (by unfold vp_in; decide) dX0_init_105 (fun H locs hP hD hS => ?_)
  have hP : va_P (dC, dI) vwCl [(h0, .inr (0, [.int 0, .int 0, .int 0, .int 0, .int 0, .int 0, .int 0, .int 0, .int 0, .int 0, .ref q_1, .ref q_3, .ref q_5])), (q_1, .inl (k_2, 6, .inr (.inr (.inr (.inr f_30))))), (q_3, .inl (k_4, 24, .inr (.inr (.inr (.inr f_127))))), (q_5, .inl (k_6, 8, .inr (.inr (.inr (.inr (va_up f_132 (1 : Int32).toNatClampNeg (some q_134))))))), (q_134, .inr (2, [.int 0, .int 0, .int 0, .int 0]))] H := hP
  have hD : va_D A [(h0, .inr (0, [.int 0, .int 0, .int 0, .int 0, .int 0, .int 0, .int 0, .int 0, .int 0, .int 0, .ref q_1, .ref q_3, .ref q_5])), (q_1, .inl (k_2, 6, .inr (.inr (.inr (.inr f_30))))), (q_3, .inl (k_4, 24, .inr (.inr (.inr (.inr f_127))))), (q_5, .inl (k_6, 8, .inr (.inr (.inr (.inr (va_up f_132 (1 : Int32).toNatClampNeg (some q_134))))))), (q_134, .inr (2, [.int 0, .int 0, .int 0, .int 0]))] := hD
  generalize va_up f_132 (1 : Int32).toNatClampNeg (some q_134) = f_136 at hP hD
  have hP := hP.sub (ws' := [(h0, .inr (0, [.int 0, .int 0, .int 0, .int 0, .int 0, .int 0, .int 0, .int 0, .int 0, .int 0, .ref q_1, .ref q_3, .ref q_5])), (q_1, .inl (k_2, 6, .inr (.inr (.inr (.inr f_30))))), (q_3, .inl (k_4, 24, .inr (.inr (.inr (.inr f_127))))), (q_5, .inl (k_6, 8, .inr (.inr (.inr (.inr f_136)))))]) [0, 1, 2, 3] rfl
  have hD := hD.sub (ws' := [(h0, .inr (0, [.int 0, .int 0, .int 0, .int 0, .int 0, .int 0, .int 0, .int 0, .int 0, .int 0, .ref q_1, .ref q_3, .ref q_5])), (q_1, .inl (k_2, 6, .inr (.inr (.inr (.inr f_30))))), (q_3, .inl (k_4, 24, .inr (.inr (.inr (.inr f_127))))), (q_5, .inl (k_6, 8, .inr (.inr (.inr (.inr f_136)))))]) [0, 1, 2, 3] (by decide) rfl
  refine lv_iinc (v := 2) (lv' := [(1, .int 2), (0, .ref h0)]) hx hb dX0_init_106 hl (k := 0) rfl (by decide) (by decide) rfl (fun ls hl => ?_)
  refine lv_goto (tgt := 87) hx hb dX0_init_109 (by decide) ?_
  refine lv_iload_n hx hb dX0_init_87 rfl (lv_at hl 0 rfl) ?_
  refine lv_bipush (v := 8) hx hb dX0_init_88 (by decide) ?_
  refine lv_icmp_ge (tgt := 112) hx hb dX0_init_90 (by decide) (fun c_137 => absurd c_137 (by decide)) (fun c_137 => ?_)
  refine lv_aload_n hx hb dX0_init_93 rfl (lv_at hl 1 rfl) ?_
  refine va_get (D := (dC, dI)) (ci := 0) (v := .ref q_5) (C := RX0) (T := TX0) (N := 13) hx hb hts (fun w h => List.mem_cons_of_mem _ (jnGA_X0 w h)) hown hK hP 0 rfl rfl 12 (by decide) (hts _ (List.mem_cons_of_mem _ mGA_86)) (fun _ h9 => h9) rfl dX0_init_94 ?_
  refine lv_iload_n hx hb dX0_init_97 rfl (lv_at hl 0 rfl) ?_
  refine va_new (ci := 2) (fs := [.int 0, .int 0, .int 0, .int 0]) (C := RX2) (T := TX2) (N := 4) hx hb hts (fun w h => List.mem_cons_of_mem _ (jnGA_X2 w h)) tyX2 tyX2_ok hown (hts _ (List.mem_cons_of_mem _ mGA_85)) (hts _ (List.mem_cons_of_mem _ mGA_95)) (hts _ (List.mem_cons_of_mem _ mGA_96)) hK hP hD hS hA rfl dfX2 (Nat.le_of_ble_eq_true rfl) (Nat.le_of_ble_eq_true rfl) dX0_init_98 (fun q_138 H hP hD hS => ?_)
  have hP : va_P (dC, dI) vwCl [(h0, .inr (0, [.int 0, .int 0, .int 0, .int 0, .int 0, .int 0, .int 0, .int 0, .int 0, .int 0, .ref q_1, .ref q_3, .ref q_5])), (q_1, .inl (k_2, 6, .inr (.inr (.inr (.inr f_30))))), (q_3, .inl (k_4, 24, .inr (.inr (.inr (.inr f_127))))), (q_5, .inl (k_6, 8, .inr (.inr (.inr (.inr f_136))))), (q_138, .inr (2, [.int 0, .int 0, .int 0, .int 0]))] H := hP
  have hD : va_D A [(h0, .inr (0, [.int 0, .int 0, .int 0, .int 0, .int 0, .int 0, .int 0, .int 0, .int 0, .int 0, .ref q_1, .ref q_3, .ref q_5])), (q_1, .inl (k_2, 6, .inr (.inr (.inr (.inr f_30))))), (q_3, .inl (k_4, 24, .inr (.inr (.inr (.inr f_127))))), (q_5, .inl (k_6, 8, .inr (.inr (.inr (.inr f_136))))), (q_138, .inr (2, [.int 0, .int 0, .int 0, .int 0]))] := hD
  refine W.widen (k := 36) (n := 206) (Nat.le_of_ble_eq_true rfl) (Nat.le_of_ble_eq_true rfl) ?_
  refine lv_dup hx hb dX0_init_101 rfl ?_
  have hPc := hP.sub (ws' := []) [] rfl
  have hKc := hK.sub (tys' := []) [] rfl
  refine va_callv (va_runIN (As := []) (rest := [.ref q_138, .int 2, .ref q_5]) ⟨hx, hb, hml, hown, hts⟩ (fX2_init l dC dI q_138) (⟨va_cnB 0 hts (gz_gP mGA_97 goodGA) rfl rfl rfl (nzA_X0_31 hz) (hts _ (List.mem_cons_of_mem _ mGA_96)) (by decide +kernel) ⟨Nat.le_of_ble_eq_true rfl, Nat.le_of_ble_eq_true rfl⟩, rfl, (hts _ (List.mem_cons_of_mem _ mGA_98))⟩) ⟨fun a U g mk q => by obtain ⟨q0, qP, qK⟩ := q; exact ⟨q0, qP, va_K.moved (u := U) (U := U.calling g mk a) (Vm.Alike.refl U.vm) qK⟩, fun U hU hW => ⟨rfl, by rw [hU]; exact hPc, va_K.moved hW.alike hKc⟩⟩ rfl rfl hl.1 rfl (lv_room (Nat.le_of_ble_eq_true rfl)) dX0_init_102 ⟨Nat.le_of_ble_eq_true rfl, Nat.le_of_ble_eq_true rfl⟩) hS (fun q _ h => h.elim) (fun q h => h.elim) (fun  u t H1 locs ht hvm hw hB hz1 hk1 hS => ?_)
  have hP := gz_keep hP hk1
  generalize H1 = H at hP hS ⊢
  refine va_astq hx hb hK hP hD hS 3 2 4 2 rfl rfl rfl rfl (by unfold vp_in; decide) dX0_init_105 (fun H locs hP hD hS => ?_)
  have hP : va_P (dC, dI) vwCl [(h0, .inr (0, [.int 0, .int 0, .int 0, .int 0, .int 0, .int 0, .int 0, .int 0, .int 0, .int 0, .ref q_1, .ref q_3, .ref q_5])), (q_1, .inl (k_2, 6, .inr (.inr (.inr (.inr f_30))))), (q_3, .inl (k_4, 24, .inr (.inr (.inr (.inr f_127))))), (q_5, .inl (k_6, 8, .inr (.inr (.inr (.inr (va_up f_136 (2 : Int32).toNatClampNeg (some q_138))))))), (q_138, .inr (2, [.int 0, .int 0, .int 0, .int 0]))] H := hP
  have hD : va_D A [(h0, .inr (0, [.int 0, .int 0, .int 0, .int 0, .int 0, .int 0, .int 0, .int 0, .int 0, .int 0, .ref q_1, .ref q_3, .ref q_5])), (q_1, .inl (k_2, 6, .inr (.inr (.inr (.inr f_30))))), (q_3, .inl (k_4, 24, .inr (.inr (.inr (.inr f_127))))), (q_5, .inl (k_6, 8, .inr (.inr (.inr (.inr (va_up f_136 (2 : Int32).toNatClampNeg (some q_138))))))), (q_138, .inr (2, [.int 0, .int 0, .int 0, .int 0]))] := hD
  generalize va_up f_136 (2 : Int32).toNatClampNeg (some q_138) = f_140 at hP hD
  have hP := hP.sub (ws' := [(h0, .inr (0, [.int 0, .int 0, .int 0, .int 0, .int 0, .int 0, .int 0, .int 0, .int 0, .int 0, .ref q_1, .ref q_3, .ref q_5])), (q_1, .inl (k_2, 6, .inr (.inr (.inr (.inr f_30))))), (q_3, .inl (k_4, 24, .inr (.inr (.inr (.inr f_127))))), (q_5, .inl (k_6, 8, .inr (.inr (.inr (.inr f_140)))))]) [0, 1, 2, 3] rfl
  have hD := hD.sub (ws' := [(h0, .inr (0, [.int 0, .int 0, .int 0, .int 0, .int 0, .int 0, .int 0, .int 0, .int 0, .int 0, .ref q_1, .ref q_3, .ref q_5])), (q_1, .inl (k_2, 6, .inr (.inr (.inr (.inr f_30))))), (q_3, .inl (k_4, 24, .inr (.inr (.inr (.inr f_127))))), (q_5, .inl (k_6, 8, .inr (.inr (.inr (.inr f_140)))))]) [0, 1, 2, 3] (by decide) rfl
  refine lv_iinc (v := 3) (lv' := [(1, .int 3), (0, .ref h0)]) hx hb dX0_init_106 hl (k := 0) rfl (by decide) (by decide) rfl (fun ls hl => ?_)
  refine lv_goto (tgt := 87) hx hb dX0_init_109 (by decide) ?_
  refine lv_iload_n hx hb dX0_init_87 rfl (lv_at hl 0 rfl) ?_
  refine lv_bipush (v := 8) hx hb dX0_init_88 (by decide) ?_
  refine lv_icmp_ge (tgt := 112) hx hb dX0_init_90 (by decide) (fun c_141 => absurd c_141 (by decide)) (fun c_141 => ?_)
  refine lv_aload_n hx hb dX0_init_93 rfl (lv_at hl 1 rfl) ?_
  refine va_get (D := (dC, dI)) (ci := 0) (v := .ref q_5) (C := RX0) (T := TX0) (N := 13) hx hb hts (fun w h => List.mem_cons_of_mem _ (jnGA_X0 w h)) hown hK hP 0 rfl rfl 12 (by decide) (hts _ (List.mem_cons_of_mem _ mGA_86)) (fun _ h9 => h9) rfl dX0_init_94 ?_
  refine lv_iload_n hx hb dX0_init_97 rfl (lv_at hl 0 rfl) ?_
  refine va_new (ci := 2) (fs := [.int 0, .int 0, .int 0, .int 0]) (C := RX2) (T := TX2) (N := 4) hx hb hts (fun w h => List.mem_cons_of_mem _ (jnGA_X2 w h)) tyX2 tyX2_ok hown (hts _ (List.mem_cons_of_mem _ mGA_85)) (hts _ (List.mem_cons_of_mem _ mGA_95)) (hts _ (List.mem_cons_of_mem _ mGA_96)) hK hP hD hS hA rfl dfX2 (Nat.le_of_ble_eq_true rfl) (Nat.le_of_ble_eq_true rfl) dX0_init_98 (fun q_142 H hP hD hS => ?_)
  have hP : va_P (dC, dI) vwCl [(h0, .inr (0, [.int 0, .int 0, .int 0, .int 0, .int 0, .int 0, .int 0, .int 0, .int 0, .int 0, .ref q_1, .ref q_3, .ref q_5])), (q_1, .inl (k_2, 6, .inr (.inr (.inr (.inr f_30))))), (q_3, .inl (k_4, 24, .inr (.inr (.inr (.inr f_127))))), (q_5, .inl (k_6, 8, .inr (.inr (.inr (.inr f_140))))), (q_142, .inr (2, [.int 0, .int 0, .int 0, .int 0]))] H := hP
  have hD : va_D A [(h0, .inr (0, [.int 0, .int 0, .int 0, .int 0, .int 0, .int 0, .int 0, .int 0, .int 0, .int 0, .ref q_1, .ref q_3, .ref q_5])), (q_1, .inl (k_2, 6, .inr (.inr (.inr (.inr f_30))))), (q_3, .inl (k_4, 24, .inr (.inr (.inr (.inr f_127))))), (q_5, .inl (k_6, 8, .inr (.inr (.inr (.inr f_140))))), (q_142, .inr (2, [.int 0, .int 0, .int 0, .int 0]))] := hD
  refine W.widen (k := 37) (n := 210) (Nat.le_of_ble_eq_true rfl) (Nat.le_of_ble_eq_true rfl) ?_
  refine lv_dup hx hb dX0_init_101 rfl ?_
  have hPc := hP.sub (ws' := []) [] rfl
  have hKc := hK.sub (tys' := []) [] rfl
  refine va_callv (va_runIN (As := []) (rest := [.ref q_142, .int 3, .ref q_5]) ⟨hx, hb, hml, hown, hts⟩ (fX2_init l dC dI q_142) (⟨va_cnB 0 hts (gz_gP mGA_97 goodGA) rfl rfl rfl (nzA_X0_31 hz) (hts _ (List.mem_cons_of_mem _ mGA_96)) (by decide +kernel) ⟨Nat.le_of_ble_eq_true rfl, Nat.le_of_ble_eq_true rfl⟩, rfl, (hts _ (List.mem_cons_of_mem _ mGA_98))⟩) ⟨fun a U g mk q => by obtain ⟨q0, qP, qK⟩ := q; exact ⟨q0, qP, va_K.moved (u := U) (U := U.calling g mk a) (Vm.Alike.refl U.vm) qK⟩, fun U hU hW => ⟨rfl, by rw [hU]; exact hPc, va_K.moved hW.alike hKc⟩⟩ rfl rfl hl.1 rfl (lv_room (Nat.le_of_ble_eq_true rfl)) dX0_init_102 ⟨Nat.le_of_ble_eq_true rfl, Nat.le_of_ble_eq_true rfl⟩) hS (fun q _ h => h.elim) (fun q h => h.elim) (fun  u t H1 locs ht hvm hw hB hz1 hk1 hS => ?_)
  have hP := gz_keep hP hk1
  generalize H1 = H at hP hS ⊢
  refine va_astq hx hb hK hP hD hS 3 2 4 2 rfl rfl rfl rfl (by unfold vp_in; decide) dX0_init_105 (fun H locs hP hD hS => ?_)
  have hP : va_P (dC, dI) vwCl [(h0, .inr (0, [.int 0, .int 0, .int 0, .int 0, .int 0, .int 0, .int 0, .int 0, .int 0, .int 0, .ref q_1, .ref q_3, .ref q_5])), (q_1, .inl (k_2, 6, .inr (.inr (.inr (.inr f_30))))), (q_3, .inl (k_4, 24, .inr (.inr (.inr (.inr f_127))))), (q_5, .inl (k_6, 8, .inr (.inr (.inr (.inr (va_up f_140 (3 : Int32).toNatClampNeg (some q_142))))))), (q_142, .inr (2, [.int 0, .int 0, .int 0, .int 0]))] H := hP
  have hD : va_D A [(h0, .inr (0, [.int 0, .int 0, .int 0, .int 0, .int 0, .int 0, .int 0, .int 0, .int 0, .int 0, .ref q_1, .ref q_3, .ref q_5])), (q_1, .inl (k_2, 6, .inr (.inr (.inr (.inr f_30))))), (q_3, .inl (k_4, 24, .inr (.inr (.inr (.inr f_127))))), (q_5, .inl (k_6, 8, .inr (.inr (.inr (.inr (va_up f_140 (3 : Int32).toNatClampNeg (some q_142))))))), (q_142, .inr (2, [.int 0, .int 0, .int 0, .int 0]))] := hD
  generalize va_up f_140 (3 : Int32).toNatClampNeg (some q_142) = f_144 at hP hD
  have hP := hP.sub (ws' := [(h0, .inr (0, [.int 0, .int 0, .int 0, .int 0, .int 0, .int 0, .int 0, .int 0, .int 0, .int 0, .ref q_1, .ref q_3, .ref q_5])), (q_1, .inl (k_2, 6, .inr (.inr (.inr (.inr f_30))))), (q_3, .inl (k_4, 24, .inr (.inr (.inr (.inr f_127))))), (q_5, .inl (k_6, 8, .inr (.inr (.inr (.inr f_144)))))]) [0, 1, 2, 3] rfl
  have hD := hD.sub (ws' := [(h0, .inr (0, [.int 0, .int 0, .int 0, .int 0, .int 0, .int 0, .int 0, .int 0, .int 0, .int 0, .ref q_1, .ref q_3, .ref q_5])), (q_1, .inl (k_2, 6, .inr (.inr (.inr (.inr f_30))))), (q_3, .inl (k_4, 24, .inr (.inr (.inr (.inr f_127))))), (q_5, .inl (k_6, 8, .inr (.inr (.inr (.inr f_144)))))]) [0, 1, 2, 3] (by decide) rfl
  refine lv_iinc (v := 4) (lv' := [(1, .int 4), (0, .ref h0)]) hx hb dX0_init_106 hl (k := 0) rfl (by decide) (by decide) rfl (fun ls hl => ?_)
  refine lv_goto (tgt := 87) hx hb dX0_init_109 (by decide) ?_
  refine lv_iload_n hx hb dX0_init_87 rfl (lv_at hl 0 rfl) ?_
  refine lv_bipush (v := 8) hx hb dX0_init_88 (by decide) ?_
  refine lv_icmp_ge (tgt := 112) hx hb dX0_init_90 (by decide) (fun c_145 => absurd c_145 (by decide)) (fun c_145 => ?_)
  refine lv_aload_n hx hb dX0_init_93 rfl (lv_at hl 1 rfl) ?_
  refine va_get (D := (dC, dI)) (ci := 0) (v := .ref q_5) (C := RX0) (T := TX0) (N := 13) hx hb hts (fun w h => List.mem_cons_of_mem _ (jnGA_X0 w h)) hown hK hP 0 rfl rfl 12 (by decide) (hts _ (List.mem_cons_of_mem _ mGA_86)) (fun _ h9 => h9) rfl dX0_init_94 ?_
  refine lv_iload_n hx hb dX0_init_97 rfl (lv_at hl 0 rfl) ?_
  refine va_new (ci := 2) (fs := [.int 0, .int 0, .int 0, .int 0]) (C := RX2) (T := TX2) (N := 4) hx hb hts (fun w h => List.mem_cons_of_mem _ (jnGA_X2 w h)) tyX2 tyX2_ok hown (hts _ (List.mem_cons_of_mem _ mGA_85)) (hts _ (List.mem_cons_of_mem _ mGA_95)) (hts _ (List.mem_cons_of_mem _ mGA_96)) hK hP hD hS hA rfl dfX2 (Nat.le_of_ble_eq_true rfl) (Nat.le_of_ble_eq_true rfl) dX0_init_98 (fun q_146 H hP hD hS => ?_)
  have hP : va_P (dC, dI) vwCl [(h0, .inr (0, [.int 0, .int 0, .int 0, .int 0, .int 0, .int 0, .int 0, .int 0, .int 0, .int 0, .ref q_1, .ref q_3, .ref q_5])), (q_1, .inl (k_2, 6, .inr (.inr (.inr (.inr f_30))))), (q_3, .inl (k_4, 24, .inr (.inr (.inr (.inr f_127))))), (q_5, .inl (k_6, 8, .inr (.inr (.inr (.inr f_144))))), (q_146, .inr (2, [.int 0, .int 0, .int 0, .int 0]))] H := hP
  have hD : va_D A [(h0, .inr (0, [.int 0, .int 0, .int 0, .int 0, .int 0, .int 0, .int 0, .int 0, .int 0, .int 0, .ref q_1, .ref q_3, .ref q_5])), (q_1, .inl (k_2, 6, .inr (.inr (.inr (.inr f_30))))), (q_3, .inl (k_4, 24, .inr (.inr (.inr (.inr f_127))))), (q_5, .inl (k_6, 8, .inr (.inr (.inr (.inr f_144))))), (q_146, .inr (2, [.int 0, .int 0, .int 0, .int 0]))] := hD
  refine W.widen (k := 38) (n := 214) (Nat.le_of_ble_eq_true rfl) (Nat.le_of_ble_eq_true rfl) ?_
  refine lv_dup hx hb dX0_init_101 rfl ?_
  have hPc := hP.sub (ws' := []) [] rfl
  have hKc := hK.sub (tys' := []) [] rfl
  refine va_callv (va_runIN (As := []) (rest := [.ref q_146, .int 4, .ref q_5]) ⟨hx, hb, hml, hown, hts⟩ (fX2_init l dC dI q_146) (⟨va_cnB 0 hts (gz_gP mGA_97 goodGA) rfl rfl rfl (nzA_X0_31 hz) (hts _ (List.mem_cons_of_mem _ mGA_96)) (by decide +kernel) ⟨Nat.le_of_ble_eq_true rfl, Nat.le_of_ble_eq_true rfl⟩, rfl, (hts _ (List.mem_cons_of_mem _ mGA_98))⟩) ⟨fun a U g mk q => by obtain ⟨q0, qP, qK⟩ := q; exact ⟨q0, qP, va_K.moved (u := U) (U := U.calling g mk a) (Vm.Alike.refl U.vm) qK⟩, fun U hU hW => ⟨rfl, by rw [hU]; exact hPc, va_K.moved hW.alike hKc⟩⟩ rfl rfl hl.1 rfl (lv_room (Nat.le_of_ble_eq_true rfl)) dX0_init_102 ⟨Nat.le_of_ble_eq_true rfl, Nat.le_of_ble_eq_true rfl⟩) hS (fun q _ h => h.elim) (fun q h => h.elim) (fun  u t H1 locs ht hvm hw hB hz1 hk1 hS => ?_)
  have hP := gz_keep hP hk1
  generalize H1 = H at hP hS ⊢
  refine va_astq hx hb hK hP hD hS 3 2 4 2 rfl rfl rfl rfl (by unfold vp_in; decide) dX0_init_105 (fun H locs hP hD hS => ?_)
  have hP : va_P (dC, dI) vwCl [(h0, .inr (0, [.int 0, .int 0, .int 0, .int 0, .int 0, .int 0, .int 0, .int 0, .int 0, .int 0, .ref q_1, .ref q_3, .ref q_5])), (q_1, .inl (k_2, 6, .inr (.inr (.inr (.inr f_30))))), (q_3, .inl (k_4, 24, .inr (.inr (.inr (.inr f_127))))), (q_5, .inl (k_6, 8, .inr (.inr (.inr (.inr (va_up f_144 (4 : Int32).toNatClampNeg (some q_146))))))), (q_146, .inr (2, [.int 0, .int 0, .int 0, .int 0]))] H := hP
  have hD : va_D A [(h0, .inr (0, [.int 0, .int 0, .int 0, .int 0, .int 0, .int 0, .int 0, .int 0, .int 0, .int 0, .ref q_1, .ref q_3, .ref q_5])), (q_1, .inl (k_2, 6, .inr (.inr (.inr (.inr f_30))))), (q_3, .inl (k_4, 24, .inr (.inr (.inr (.inr f_127))))), (q_5, .inl (k_6, 8, .inr (.inr (.inr (.inr (va_up f_144 (4 : Int32).toNatClampNeg (some q_146))))))), (q_146, .inr (2, [.int 0, .int 0, .int 0, .int 0]))] := hD
  generalize va_up f_144 (4 : Int32).toNatClampNeg (some q_146) = f_148 at hP hD
  have hP := hP.sub (ws' := [(h0, .inr (0, [.int 0, .int 0, .int 0, .int 0, .int 0, .int 0, .int 0, .int 0, .int 0, .int 0, .ref q_1, .ref q_3, .ref q_5])), (q_1, .inl (k_2, 6, .inr (.inr (.inr (.inr f_30))))), (q_3, .inl (k_4, 24, .inr (.inr (.inr (.inr f_127))))), (q_5, .inl (k_6, 8, .inr (.inr (.inr (.inr f_148)))))]) [0, 1, 2, 3] rfl
  have hD := hD.sub (ws' := [(h0, .inr (0, [.int 0, .int 0, .int 0, .int 0, .int 0, .int 0, .int 0, .int 0, .int 0, .int 0, .ref q_1, .ref q_3, .ref q_5])), (q_1, .inl (k_2, 6, .inr (.inr (.inr (.inr f_30))))), (q_3, .inl (k_4, 24, .inr (.inr (.inr (.inr f_127))))), (q_5, .inl (k_6, 8, .inr (.inr (.inr (.inr f_148)))))]) [0, 1, 2, 3] (by decide) rfl
  refine lv_iinc (v := 5) (lv' := [(1, .int 5), (0, .ref h0)]) hx hb dX0_init_106 hl (k := 0) rfl (by decide) (by decide) rfl (fun ls hl => ?_)
  refine lv_goto (tgt := 87) hx hb dX0_init_109 (by decide) ?_
  refine lv_iload_n hx hb dX0_init_87 rfl (lv_at hl 0 rfl) ?_
  refine lv_bipush (v := 8) hx hb dX0_init_88 (by decide) ?_
  refine lv_icmp_ge (tgt := 112) hx hb dX0_init_90 (by decide) (fun c_149 => absurd c_149 (by decide)) (fun c_149 => ?_)
  refine lv_aload_n hx hb dX0_init_93 rfl (lv_at hl 1 rfl) ?_
  refine va_get (D := (dC, dI)) (ci := 0) (v := .ref q_5) (C := RX0) (T := TX0) (N := 13) hx hb hts (fun w h => List.mem_cons_of_mem _ (jnGA_X0 w h)) hown hK hP 0 rfl rfl 12 (by decide) (hts _ (List.mem_cons_of_mem _ mGA_86)) (fun _ h9 => h9) rfl dX0_init_94 ?_
  refine lv_iload_n hx hb dX0_init_97 rfl (lv_at hl 0 rfl) ?_
  refine va_new (ci := 2) (fs := [.int 0, .int 0, .int 0, .int 0]) (C := RX2) (T := TX2) (N := 4) hx hb hts (fun w h => List.mem_cons_of_mem _ (jnGA_X2 w h)) tyX2 tyX2_ok hown (hts _ (List.mem_cons_of_mem _ mGA_85)) (hts _ (List.mem_cons_of_mem _ mGA_95)) (hts _ (List.mem_cons_of_mem _ mGA_96)) hK hP hD hS hA rfl dfX2 (Nat.le_of_ble_eq_true rfl) (Nat.le_of_ble_eq_true rfl) dX0_init_98 (fun q_150 H hP hD hS => ?_)
  have hP : va_P (dC, dI) vwCl [(h0, .inr (0, [.int 0, .int 0, .int 0, .int 0, .int 0, .int 0, .int 0, .int 0, .int 0, .int 0, .ref q_1, .ref q_3, .ref q_5])), (q_1, .inl (k_2, 6, .inr (.inr (.inr (.inr f_30))))), (q_3, .inl (k_4, 24, .inr (.inr (.inr (.inr f_127))))), (q_5, .inl (k_6, 8, .inr (.inr (.inr (.inr f_148))))), (q_150, .inr (2, [.int 0, .int 0, .int 0, .int 0]))] H := hP
  have hD : va_D A [(h0, .inr (0, [.int 0, .int 0, .int 0, .int 0, .int 0, .int 0, .int 0, .int 0, .int 0, .int 0, .ref q_1, .ref q_3, .ref q_5])), (q_1, .inl (k_2, 6, .inr (.inr (.inr (.inr f_30))))), (q_3, .inl (k_4, 24, .inr (.inr (.inr (.inr f_127))))), (q_5, .inl (k_6, 8, .inr (.inr (.inr (.inr f_148))))), (q_150, .inr (2, [.int 0, .int 0, .int 0, .int 0]))] := hD
  refine W.widen (k := 39) (n := 218) (Nat.le_of_ble_eq_true rfl) (Nat.le_of_ble_eq_true rfl) ?_
  refine lv_dup hx hb dX0_init_101 rfl ?_
  have hPc := hP.sub (ws' := []) [] rfl
  have hKc := hK.sub (tys' := []) [] rfl
  refine va_callv (va_runIN (As := []) (rest := [.ref q_150, .int 5, .ref q_5]) ⟨hx, hb, hml, hown, hts⟩ (fX2_init l dC dI q_150) (⟨va_cnB 0 hts (gz_gP mGA_97 goodGA) rfl rfl rfl (nzA_X0_31 hz) (hts _ (List.mem_cons_of_mem _ mGA_96)) (by decide +kernel) ⟨Nat.le_of_ble_eq_true rfl, Nat.le_of_ble_eq_true rfl⟩, rfl, (hts _ (List.mem_cons_of_mem _ mGA_98))⟩) ⟨fun a U g mk q => by obtain ⟨q0, qP, qK⟩ := q; exact ⟨q0, qP, va_K.moved (u := U) (U := U.calling g mk a) (Vm.Alike.refl U.vm) qK⟩, fun U hU hW => ⟨rfl, by rw [hU]; exact hPc, va_K.moved hW.alike hKc⟩⟩ rfl rfl hl.1 rfl (lv_room (Nat.le_of_ble_eq_true rfl)) dX0_init_102 ⟨Nat.le_of_ble_eq_true rfl, Nat.le_of_ble_eq_true rfl⟩) hS (fun q _ h => h.elim) (fun q h => h.elim) (fun  u t H1 locs ht hvm hw hB hz1 hk1 hS => ?_)
  have hP := gz_keep hP hk1
  generalize H1 = H at hP hS ⊢
  refine va_astq hx hb hK hP hD hS 3 2 4 2 rfl rfl rfl rfl (by unfold vp_in; decide) dX0_init_105 (fun H locs hP hD hS => ?_)
  have hP : va_P (dC, dI) vwCl [(h0, .inr (0, [.int 0, .int 0, .int 0, .int 0, .int 0, .int 0, .int 0, .int 0, .int 0, .int 0, .ref q_1, .ref q_3, .ref q_5])), (q_1, .inl (k_2, 6, .inr (.inr (.inr (.inr f_30))))), (q_3, .inl (k_4, 24, .inr (.inr (.inr (.inr f_127))))), (q_5, .inl (k_6, 8, .inr (.inr (.inr (.inr (va_up f_148 (5 : Int32).toNatClampNeg (some q_150))))))), (q_150, .inr (2, [.int 0, .int 0, .int 0, .int 0]))] H := hP
  have hD : va_D A [(h0, .inr (0, [.int 0, .int 0, .int 0, .int 0, .int 0, .int 0, .int 0, .int 0, .int 0, .int 0, .ref q_1, .ref q_3, .ref q_5])), (q_1, .inl (k_2, 6, .inr (.inr (.inr (.inr f_30))))), (q_3, .inl (k_4, 24, .inr (.inr (.inr (.inr f_127))))), (q_5, .inl (k_6, 8, .inr (.inr (.inr (.inr (va_up f_148 (5 : Int32).toNatClampNeg (some q_150))))))), (q_150, .inr (2, [.int 0, .int 0, .int 0, .int 0]))] := hD
  generalize va_up f_148 (5 : Int32).toNatClampNeg (some q_150) = f_152 at hP hD
  have hP := hP.sub (ws' := [(h0, .inr (0, [.int 0, .int 0, .int 0, .int 0, .int 0, .int 0, .int 0, .int 0, .int 0, .int 0, .ref q_1, .ref q_3, .ref q_5])), (q_1, .inl (k_2, 6, .inr (.inr (.inr (.inr f_30))))), (q_3, .inl (k_4, 24, .inr (.inr (.inr (.inr f_127))))), (q_5, .inl (k_6, 8, .inr (.inr (.inr (.inr f_152)))))]) [0, 1, 2, 3] rfl
  have hD := hD.sub (ws' := [(h0, .inr (0, [.int 0, .int 0, .int 0, .int 0, .int 0, .int 0, .int 0, .int 0, .int 0, .int 0, .ref q_1, .ref q_3, .ref q_5])), (q_1, .inl (k_2, 6, .inr (.inr (.inr (.inr f_30))))), (q_3, .inl (k_4, 24, .inr (.inr (.inr (.inr f_127))))), (q_5, .inl (k_6, 8, .inr (.inr (.inr (.inr f_152)))))]) [0, 1, 2, 3] (by decide) rfl
  refine lv_iinc (v := 6) (lv' := [(1, .int 6), (0, .ref h0)]) hx hb dX0_init_106 hl (k := 0) rfl (by decide) (by decide) rfl (fun ls hl => ?_)
  refine lv_goto (tgt := 87) hx hb dX0_init_109 (by decide) ?_
  refine lv_iload_n hx hb dX0_init_87 rfl (lv_at hl 0 rfl) ?_
  refine lv_bipush (v := 8) hx hb dX0_init_88 (by decide) ?_
  refine lv_icmp_ge (tgt := 112) hx hb dX0_init_90 (by decide) (fun c_153 => absurd c_153 (by decide)) (fun c_153 => ?_)
  refine lv_aload_n hx hb dX0_init_93 rfl (lv_at hl 1 rfl) ?_
  refine va_get (D := (dC, dI)) (ci := 0) (v := .ref q_5) (C := RX0) (T := TX0) (N := 13) hx hb hts (fun w h => List.mem_cons_of_mem _ (jnGA_X0 w h)) hown hK hP 0 rfl rfl 12 (by decide) (hts _ (List.mem_cons_of_mem _ mGA_86)) (fun _ h9 => h9) rfl dX0_init_94 ?_
  refine lv_iload_n hx hb dX0_init_97 rfl (lv_at hl 0 rfl) ?_
  refine va_new (ci := 2) (fs := [.int 0, .int 0, .int 0, .int 0]) (C := RX2) (T := TX2) (N := 4) hx hb hts (fun w h => List.mem_cons_of_mem _ (jnGA_X2 w h)) tyX2 tyX2_ok hown (hts _ (List.mem_cons_of_mem _ mGA_85)) (hts _ (List.mem_cons_of_mem _ mGA_95)) (hts _ (List.mem_cons_of_mem _ mGA_96)) hK hP hD hS hA rfl dfX2 (Nat.le_of_ble_eq_true rfl) (Nat.le_of_ble_eq_true rfl) dX0_init_98 (fun q_154 H hP hD hS => ?_)
  have hP : va_P (dC, dI) vwCl [(h0, .inr (0, [.int 0, .int 0, .int 0, .int 0, .int 0, .int 0, .int 0, .int 0, .int 0, .int 0, .ref q_1, .ref q_3, .ref q_5])), (q_1, .inl (k_2, 6, .inr (.inr (.inr (.inr f_30))))), (q_3, .inl (k_4, 24, .inr (.inr (.inr (.inr f_127))))), (q_5, .inl (k_6, 8, .inr (.inr (.inr (.inr f_152))))), (q_154, .inr (2, [.int 0, .int 0, .int 0, .int 0]))] H := hP
  have hD : va_D A [(h0, .inr (0, [.int 0, .int 0, .int 0, .int 0, .int 0, .int 0, .int 0, .int 0, .int 0, .int 0, .ref q_1, .ref q_3, .ref q_5])), (q_1, .inl (k_2, 6, .inr (.inr (.inr (.inr f_30))))), (q_3, .inl (k_4, 24, .inr (.inr (.inr (.inr f_127))))), (q_5, .inl (k_6, 8, .inr (.inr (.inr (.inr f_152))))), (q_154, .inr (2, [.int 0, .int 0, .int 0, .int 0]))] := hD
  refine W.widen (k := 40) (n := 222) (Nat.le_of_ble_eq_true rfl) (Nat.le_of_ble_eq_true rfl) ?_
  refine lv_dup hx hb dX0_init_101 rfl ?_
  have hPc := hP.sub (ws' := []) [] rfl
  have hKc := hK.sub (tys' := []) [] rfl
  refine va_callv (va_runIN (As := []) (rest := [.ref q_154, .int 6, .ref q_5]) ⟨hx, hb, hml, hown, hts⟩ (fX2_init l dC dI q_154) (⟨va_cnB 0 hts (gz_gP mGA_97 goodGA) rfl rfl rfl (nzA_X0_31 hz) (hts _ (List.mem_cons_of_mem _ mGA_96)) (by decide +kernel) ⟨Nat.le_of_ble_eq_true rfl, Nat.le_of_ble_eq_true rfl⟩, rfl, (hts _ (List.mem_cons_of_mem _ mGA_98))⟩) ⟨fun a U g mk q => by obtain ⟨q0, qP, qK⟩ := q; exact ⟨q0, qP, va_K.moved (u := U) (U := U.calling g mk a) (Vm.Alike.refl U.vm) qK⟩, fun U hU hW => ⟨rfl, by rw [hU]; exact hPc, va_K.moved hW.alike hKc⟩⟩ rfl rfl hl.1 rfl (lv_room (Nat.le_of_ble_eq_true rfl)) dX0_init_102 ⟨Nat.le_of_ble_eq_true rfl, Nat.le_of_ble_eq_true rfl⟩) hS (fun q _ h => h.elim) (fun q h => h.elim) (fun  u t H1 locs ht hvm hw hB hz1 hk1 hS => ?_)
  have hP := gz_keep hP hk1
  generalize H1 = H at hP hS ⊢
  refine va_astq hx hb hK hP hD hS 3 2 4 2 rfl rfl rfl rfl (by unfold vp_in; decide) dX0_init_105 (fun H locs hP hD hS => ?_)
  have hP : va_P (dC, dI) vwCl [(h0, .inr (0, [.int 0, .int 0, .int 0, .int 0, .int 0, .int 0, .int 0, .int 0, .int 0, .int 0, .ref q_1, .ref q_3, .ref q_5])), (q_1, .inl (k_2, 6, .inr (.inr (.inr (.inr f_30))))), (q_3, .inl (k_4, 24, .inr (.inr (.inr (.inr f_127))))), (q_5, .inl (k_6, 8, .inr (.inr (.inr (.inr (va_up f_152 (6 : Int32).toNatClampNeg (some q_154))))))), (q_154, .inr (2, [.int 0, .int 0, .int 0, .int 0]))] H := hP
  have hD : va_D A [(h0, .inr (0, [.int 0, .int 0, .int 0, .int 0, .int 0, .int 0, .int 0, .int 0, .int 0, .int 0, .ref q_1, .ref q_3, .ref q_5])), (q_1, .inl (k_2, 6, .inr (.inr (.inr (.inr f_30))))), (q_3, .inl (k_4, 24, .inr (.inr (.inr (.inr f_127))))), (q_5, .inl (k_6, 8, .inr (.inr (.inr (.inr (va_up f_152 (6 : Int32).toNatClampNeg (some q_154))))))), (q_154, .inr (2, [.int 0, .int 0, .int 0, .int 0]))] := hD
  generalize va_up f_152 (6 : Int32).toNatClampNeg (some q_154) = f_156 at hP hD
  have hP := hP.sub (ws' := [(h0, .inr (0, [.int 0, .int 0, .int 0, .int 0, .int 0, .int 0, .int 0, .int 0, .int 0, .int 0, .ref q_1, .ref q_3, .ref q_5])), (q_1, .inl (k_2, 6, .inr (.inr (.inr (.inr f_30))))), (q_3, .inl (k_4, 24, .inr (.inr (.inr (.inr f_127))))), (q_5, .inl (k_6, 8, .inr (.inr (.inr (.inr f_156)))))]) [0, 1, 2, 3] rfl
  have hD := hD.sub (ws' := [(h0, .inr (0, [.int 0, .int 0, .int 0, .int 0, .int 0, .int 0, .int 0, .int 0, .int 0, .int 0, .ref q_1, .ref q_3, .ref q_5])), (q_1, .inl (k_2, 6, .inr (.inr (.inr (.inr f_30))))), (q_3, .inl (k_4, 24, .inr (.inr (.inr (.inr f_127))))), (q_5, .inl (k_6, 8, .inr (.inr (.inr (.inr f_156)))))]) [0, 1, 2, 3] (by decide) rfl
  refine lv_iinc (v := 7) (lv' := [(1, .int 7), (0, .ref h0)]) hx hb dX0_init_106 hl (k := 0) rfl (by decide) (by decide) rfl (fun ls hl => ?_)
  refine lv_goto (tgt := 87) hx hb dX0_init_109 (by decide) ?_
  refine lv_iload_n hx hb dX0_init_87 rfl (lv_at hl 0 rfl) ?_
  refine lv_bipush (v := 8) hx hb dX0_init_88 (by decide) ?_
  refine lv_icmp_ge (tgt := 112) hx hb dX0_init_90 (by decide) (fun c_157 => absurd c_157 (by decide)) (fun c_157 => ?_)
  refine lv_aload_n hx hb dX0_init_93 rfl (lv_at hl 1 rfl) ?_
  refine va_get (D := (dC, dI)) (ci := 0) (v := .ref q_5) (C := RX0) (T := TX0) (N := 13) hx hb hts (fun w h => List.mem_cons_of_mem _ (jnGA_X0 w h)) hown hK hP 0 rfl rfl 12 (by decide) (hts _ (List.mem_cons_of_mem _ mGA_86)) (fun _ h9 => h9) rfl dX0_init_94 ?_
  refine lv_iload_n hx hb dX0_init_97 rfl (lv_at hl 0 rfl) ?_
  refine va_new (ci := 2) (fs := [.int 0, .int 0, .int 0, .int 0]) (C := RX2) (T := TX2) (N := 4) hx hb hts (fun w h => List.mem_cons_of_mem _ (jnGA_X2 w h)) tyX2 tyX2_ok hown (hts _ (List.mem_cons_of_mem _ mGA_85)) (hts _ (List.mem_cons_of_mem _ mGA_95)) (hts _ (List.mem_cons_of_mem _ mGA_96)) hK hP hD hS hA rfl dfX2 (Nat.le_of_ble_eq_true rfl) (Nat.le_of_ble_eq_true rfl) dX0_init_98 (fun q_158 H hP hD hS => ?_)
  have hP : va_P (dC, dI) vwCl [(h0, .inr (0, [.int 0, .int 0, .int 0, .int 0, .int 0, .int 0, .int 0, .int 0, .int 0, .int 0, .ref q_1, .ref q_3, .ref q_5])), (q_1, .inl (k_2, 6, .inr (.inr (.inr (.inr f_30))))), (q_3, .inl (k_4, 24, .inr (.inr (.inr (.inr f_127))))), (q_5, .inl (k_6, 8, .inr (.inr (.inr (.inr f_156))))), (q_158, .inr (2, [.int 0, .int 0, .int 0, .int 0]))] H := hP
  have hD : va_D A [(h0, .inr (0, [.int 0, .int 0, .int 0, .int 0, .int 0, .int 0, .int 0, .int 0, .int 0, .int 0, .ref q_1, .ref q_3, .ref q_5])), (q_1, .inl (k_2, 6, .inr (.inr (.inr (.inr f_30))))), (q_3, .inl (k_4, 24, .inr (.inr (.inr (.inr f_127))))), (q_5, .inl (k_6, 8, .inr (.inr (.inr (.inr f_156))))), (q_158, .inr (2, [.int 0, .int 0, .int 0, .int 0]))] := hD
  refine W.widen (k := 41) (n := 226) (Nat.le_of_ble_eq_true rfl) (Nat.le_of_ble_eq_true rfl) ?_
  refine lv_dup hx hb dX0_init_101 rfl ?_
  have hPc := hP.sub (ws' := []) [] rfl
  have hKc := hK.sub (tys' := []) [] rfl
  refine va_callv (va_runIN (As := []) (rest := [.ref q_158, .int 7, .ref q_5]) ⟨hx, hb, hml, hown, hts⟩ (fX2_init l dC dI q_158) (⟨va_cnB 0 hts (gz_gP mGA_97 goodGA) rfl rfl rfl (nzA_X0_31 hz) (hts _ (List.mem_cons_of_mem _ mGA_96)) (by decide +kernel) ⟨Nat.le_of_ble_eq_true rfl, Nat.le_of_ble_eq_true rfl⟩, rfl, (hts _ (List.mem_cons_of_mem _ mGA_98))⟩) ⟨fun a U g mk q => by obtain ⟨q0, qP, qK⟩ := q; exact ⟨q0, qP, va_K.moved (u := U) (U := U.calling g mk a) (Vm.Alike.refl U.vm) qK⟩, fun U hU hW => ⟨rfl, by rw [hU]; exact hPc, va_K.moved hW.alike hKc⟩⟩ rfl rfl hl.1 rfl (lv_room (Nat.le_of_ble_eq_true rfl)) dX0_init_102 ⟨Nat.le_of_ble_eq_true rfl, Nat.le_of_ble_eq_true rfl⟩) hS (fun q _ h => h.elim) (fun q h => h.elim) (fun  u t H1 locs ht hvm hw hB hz1 hk1 hS => ?_)
  have hP := gz_keep hP hk1
  generalize H1 = H at hP hS ⊢
  refine va_astq hx hb hK hP hD hS 3 2 4 2 rfl rfl rfl rfl (by unfold vp_in; decide) dX0_init_105 (fun H locs hP hD hS => ?_)
  have hP : va_P (dC, dI) vwCl [(h0, .inr (0, [.int 0, .int 0, .int 0, .int 0, .int 0, .int 0, .int 0, .int 0, .int 0, .int 0, .ref q_1, .ref q_3, .ref q_5])), (q_1, .inl (k_2, 6, .inr (.inr (.inr (.inr f_30))))), (q_3, .inl (k_4, 24, .inr (.inr (.inr (.inr f_127))))), (q_5, .inl (k_6, 8, .inr (.inr (.inr (.inr (va_up f_156 (7 : Int32).toNatClampNeg (some q_158))))))), (q_158, .inr (2, [.int 0, .int 0, .int 0, .int 0]))] H := hP
  have hD : va_D A [(h0, .inr (0, [.int 0, .int 0, .int 0, .int 0, .int 0, .int 0, .int 0, .int 0, .int 0, .int 0, .ref q_1, .ref q_3, .ref q_5])), (q_1, .inl (k_2, 6, .inr (.inr (.inr (.inr f_30))))), (q_3, .inl (k_4, 24, .inr (.inr (.inr (.inr f_127))))), (q_5, .inl (k_6, 8, .inr (.inr (.inr (.inr (va_up f_156 (7 : Int32).toNatClampNeg (some q_158))))))), (q_158, .inr (2, [.int 0, .int 0, .int 0, .int 0]))] := hD
  generalize va_up f_156 (7 : Int32).toNatClampNeg (some q_158) = f_160 at hP hD
  have hP := hP.sub (ws' := [(h0, .inr (0, [.int 0, .int 0, .int 0, .int 0, .int 0, .int 0, .int 0, .int 0, .int 0, .int 0, .ref q_1, .ref q_3, .ref q_5])), (q_1, .inl (k_2, 6, .inr (.inr (.inr (.inr f_30))))), (q_3, .inl (k_4, 24, .inr (.inr (.inr (.inr f_127))))), (q_5, .inl (k_6, 8, .inr (.inr (.inr (.inr f_160)))))]) [0, 1, 2, 3] rfl
  have hD := hD.sub (ws' := [(h0, .inr (0, [.int 0, .int 0, .int 0, .int 0, .int 0, .int 0, .int 0, .int 0, .int 0, .int 0, .ref q_1, .ref q_3, .ref q_5])), (q_1, .inl (k_2, 6, .inr (.inr (.inr (.inr f_30))))), (q_3, .inl (k_4, 24, .inr (.inr (.inr (.inr f_127))))), (q_5, .inl (k_6, 8, .inr (.inr (.inr (.inr f_160)))))]) [0, 1, 2, 3] (by decide) rfl
  refine lv_iinc (v := 8) (lv' := [(1, .int 8), (0, .ref h0)]) hx hb dX0_init_106 hl (k := 0) rfl (by decide) (by decide) rfl (fun ls hl => ?_)
  refine lv_goto (tgt := 87) hx hb dX0_init_109 (by decide) ?_
  refine lv_iload_n hx hb dX0_init_87 rfl (lv_at hl 0 rfl) ?_
  refine lv_bipush (v := 8) hx hb dX0_init_88 (by decide) ?_
  refine lv_icmp_ge (tgt := 112) hx hb dX0_init_90 (by decide) (fun c_161 => ?_) (fun c_161 => absurd (by decide) c_161)
  have hP9 := hP.sub (ws' := [(h0, .inr (0, [.int 0, .int 0, .int 0, .int 0, .int 0, .int 0, .int 0, .int 0, .int 0, .int 0, .ref q_1, .ref q_3, .ref q_5]))]) [0] rfl
  have hD9 := hD.sub (ws' := [(h0, .inr (0, [.int 0, .int 0, .int 0, .int 0, .int 0, .int 0, .int 0, .int 0, .int 0, .int 0, .ref q_1, .ref q_3, .ref q_5]))]) [0] (by decide) rfl
  have hK9 := hK.sub (tys' := []) [] rfl
  exact W.vret hx hb hr (fun t ht hW => ⟨⟨(), rfl, trivial, q_1, q_3, q_5, by rw [ht]; exact hP9, va_K.moved hW.alike hK9, hD9⟩, hS.F ht⟩) hS.2.2 dX0_init_112
end
section
theorem dX6_init_0 : decode cX6_init 0 = .ok (.aload_n 0, 1) := by decide +kernel
theorem dX6_init_1 : decode cX6_init 1 = .ok (.invokespecial 3, 3) := by decide +kernel
theorem dX6_init_4 : decode cX6_init 4 = .ok (.aload_n 0, 1) := by decide +kernel
theorem dX6_init_5 : decode cX6_init 5 = .ok (.new 9, 3) := by decide +kernel
theorem dX6_init_8 : decode cX6_init 8 = .ok (.dup, 1) := by decide +kernel
theorem dX6_init_9 : decode cX6_init 9 = .ok (.invokespecial 11, 3) := by decide +kernel
theorem dX6_init_12 : decode cX6_init 12 = .ok (.putfield 12, 3) := by decide +kernel
theorem dX6_init_15 : decode cX6_init 15 = .ok (.aload_n 0, 1) := by decide +kernel
theorem dX6_init_16 : decode cX6_init 16 = .ok (.new 18, 3) := by decide +kernel
theorem dX6_init_19 : decode cX6_init 19 = .ok (.dup, 1) := by decide +kernel
theorem dX6_init_20 : decode cX6_init 20 = .ok (.invokespecial 20, 3) := by decide +kernel
theorem dX6_init_23 : decode cX6_init 23 = .ok (.putfield 21, 3) := by decide +kernel
theorem dX6_init_26 : decode cX6_init 26 = .ok (.aload_n 0, 1) := by decide +kernel
theorem dX6_init_27 : decode cX6_init 27 = .ok (.iconst 0, 1) := by decide +kernel
theorem dX6_init_28 : decode cX6_init 28 = .ok (.putfield 25, 3) := by decide +kernel
theorem dX6_init_31 : decode cX6_init 31 = .ok (.aload_n 0, 1) := by decide +kernel
theorem dX6_init_32 : decode cX6_init 32 = .ok (.iconst (-1), 1) := by decide +kernel
theorem dX6_init_33 : decode cX6_init 33 = .ok (.putfield 29, 3) := by decide +kernel
theorem dX6_init_36 : decode cX6_init 36 = .ok (.aload_n 0, 1) := by decide +kernel
theorem dX6_init_37 : decode cX6_init 37 = .ok (.iconst 0, 1) := by decide +kernel
theorem dX6_init_38 : decode cX6_init 38 = .ok (.putfield 32, 3) := by decide +kernel
theorem dX6_init_41 : decode cX6_init 41 = .ok (.aload_n 0, 1) := by decide +kernel
theorem dX6_init_42 : decode cX6_init 42 = .ok (.iconst 0, 1) := by decide +kernel
theorem dX6_init_43 : decode cX6_init 43 = .ok (.putfield 35, 3) := by decide +kernel
theorem dX6_init_46 : decode cX6_init 46 = .ok (.aload_n 0, 1) := by decide +kernel
theorem dX6_init_47 : decode cX6_init 47 = .ok (.iconst 0, 1) := by decide +kernel
theorem dX6_init_48 : decode cX6_init 48 = .ok (.putfield 38, 3) := by decide +kernel
theorem dX6_init_51 : decode cX6_init 51 = .ok (.return_, 1) := by decide +kernel
set_option maxHeartbeats 4000000 in
set_option maxRecDepth 100000 in
theorem fX6_init (l : Launch) (dC : Nat → ClassId) (dI : Nat → Nat → Nat) (sz : Nat) (h0 : Nat) : Met l yX6_init (.code yX6_init cX6_init 1 none :: wsGA) ({ frames := 3, cells := 44, slots := 1841, locals := 53 }) (va_Pc [.ref h0] (fun U => U.heap.size = sz ∧ va_P (dC, dI) vwCl [(h0, .inr (6, [.null, .null, .int 0, .int 0, .int 0, .int 0, .int 0]))] U.heap ∧ va_K (dC, dI) vwCl [] U ∧ va_D (fun _ => True) [(h0, .inr (6, [.null, .null, .int 0, .int 0, .int 0, .int 0, .int 0]))] ∧ nzA U)) (va_Qv (fun (u : Unit) => True) (fun _ t => ∃ (r : Nat → Nat) (k1 : ClassId), va_P (dC, dI) vwCl [(h0, .inr (6, fsR r)), ((r 11), .inr (10, fsT r)), ((r 13), .inl (k1, 1600, .inl (fun _ => 0))), ((r 12), .inr (0, fsD r))] t.heap ∧ va_K (dC, dI) vwCl [(k1, .byte)] t ∧ va_D (va_A [(h0, .inr (6, [.null, .null, .int 0, .int 0, .int 0, .int 0, .int 0]))] sz) [(h0, .inr (6, fsR r)), ((r 11), .inr (10, fsT r)), ((r 13), .inl (k1, 1600, .inl (fun _ => 0))), ((r 12), .inr (0, fsD r))]) (va_A [(h0, .inr (6, [.null, .null, .int 0, .int 0, .int 0, .int 0, .int 0]))] sz)) 44 1841 (va_A [(h0, .inr (6, [.null, .null, .int 0, .int 0, .int 0, .int 0, .int 0]))] sz) := by
  refine Met.ofW (cc := cX6_init) (maxL := 1) (ret := none) (by decide) rfl ?_
  intro p e s m args below meth c s₁ B hml hv
  obtain ⟨rfl, hsz, hP, hK, hD0, hz⟩ := hv
  have hx := B.exec
  have hb := B.bytes
  have hr := B.returns
  have hts := atoms_spec (ws := (.code yX6_init cX6_init 1 none :: wsGA)) B.pre
  have hown : s.vm.findClass RX6 = some m.cls := findClass_of_methodNamed B.named
  have hlocks := B.notSynchronized
  have hin : meth.name = "<init>" := (name_of_methodNamed B.named B.method).1
  subst hsz
  have hD := hD0.self (sz := s.heap.size)
  generalize hAe : va_A [(h0, .inr (6, [.null, .null, .int 0, .int 0, .int 0, .int 0, .int 0]))] s.heap.size = A at hD ⊢
  have hA : ∀ q : Nat, s.heap.size ≤ q → A q := fun q h => by rw [← hAe]; exact Or.inr h
  have hS : va_S A s.heap s.heap [] := va_S.rf
  have hl := lv_entry ([.ref h0]) (n := 1) (Nat.le_of_ble_eq_true rfl)
  rw [lg_entry_eq]
  generalize (lg_sl ([.ref h0]) ++ List.replicate (1 - (lg_sl ([.ref h0])).length) Slot.unset).toArray = ls at hl ⊢
  have hl : lv_has ls 1 [(0, .ref h0)] := hl
  refine lv_aload_n hx hb dX6_init_0 rfl (lv_at hl 0 rfl) ?_
  refine W.objInit hx hb hown (hts _ (List.mem_cons_of_mem _ mGA_99)) (hts _ (List.mem_cons_of_mem _ mGA_43)) (hts _ (List.mem_cons_of_mem _ mGA_44)) rfl (by rw [hml]; exact hl.1) rfl dX6_init_1 (Nat.le_of_ble_eq_true rfl) (Nat.le_of_ble_eq_true rfl) ?_
  refine W.eq (g2 := F0 m 4 ls []) rfl ?_
  refine lv_aload_n hx hb dX6_init_4 rfl (lv_at hl 0 rfl) ?_
  refine va_new (ci := 10) (fs := [.null, .int 0]) (C := RX10) (T := TX10) (N := 2) hx hb hts (fun w h => List.mem_cons_of_mem _ (jnGA_X10 w h)) tyX10 tyX10_ok hown (hts _ (List.mem_cons_of_mem _ mGA_100)) (hts _ (List.mem_cons_of_mem _ mGA_101)) (hts _ (List.mem_cons_of_mem _ mGA_102)) hK hP hD hS hA rfl dfX10 (Nat.le_of_ble_eq_true rfl) (Nat.le_of_ble_eq_true rfl) dX6_init_5 (fun q_1 H hP hD hS => ?_)
  have hP : va_P (dC, dI) vwCl [(h0, .inr (6, [.null, .null, .int 0, .int 0, .int 0, .int 0, .int 0])), (q_1, .inr (10, [.null, .int 0]))] H := hP
  have hD : va_D A [(h0, .inr (6, [.null, .null, .int 0, .int 0, .int 0, .int 0, .int 0])), (q_1, .inr (10, [.null, .int 0]))] := hD
  refine W.widen (k := 1) (n := 2) (Nat.le_of_ble_eq_true rfl) (Nat.le_of_ble_eq_true rfl) ?_
  refine lv_dup hx hb dX6_init_8 rfl ?_
  have hPc := hP.sub (ws' := [(q_1, .inr (10, [.null, .int 0]))]) [1] rfl
  have hDc := hD.sub (ws' := [(q_1, .inr (10, [.null, .int 0]))]) [1] (by decide) rfl
  have hKc := hK.sub (tys' := []) [] rfl
  have hFc := va_free (wc := [(q_1, .inr (10, [.null, .int 0]))]) hD hS hA [1] rfl
  refine va_callv (va_runIN (As := []) (rest := [.ref q_1, .ref h0]) ⟨hx, hb, hml, hown, hts⟩ (fX10_init l dC dI H.size q_1) (⟨va_cnB 0 hts (gz_gP mGA_103 goodGA) rfl rfl rfl (nzA_X6_11 hz) (hts _ (List.mem_cons_of_mem _ mGA_102)) (by decide +kernel) ⟨Nat.le_of_ble_eq_true rfl, Nat.le_of_ble_eq_true rfl⟩, rfl, (hts _ (List.mem_cons_of_mem _ mGA_104))⟩) ⟨fun a U g mk q => by obtain ⟨q0, q1, qP, qK, qD⟩ := q; exact ⟨q0, q1, qP, va_K.moved (u := U) (U := U.calling g mk a) (Vm.Alike.refl U.vm) qK, qD⟩, fun U hU hW => ⟨rfl, by rw [hU], by rw [hU]; exact hPc, va_K.moved hW.alike hKc, hDc.weaken (fun _ _ _ _ => trivial)⟩⟩ rfl rfl hl.1 rfl (lv_room (Nat.le_of_ble_eq_true rfl)) dX6_init_9 ⟨Nat.le_of_ble_eq_true rfl, Nat.le_of_ble_eq_true rfl⟩) hS (fun q _ h => hFc q h) hFc (fun  u t H1 locs ht hvm hw hB hz1 hk1 hS => ?_)
  obtain ⟨q_2, k_3, hP1, hK1, hD1⟩ := hB
  rw [ht] at hP1
  have hK1 := va_K.moved hvm.symm hK1
  obtain ⟨hP, hD⟩ := va_join (wr := [(h0, .inr (6, [.null, .null, .int 0, .int 0, .int 0, .int 0, .int 0]))]) (w1 := [(q_1, .inr (10, [.ref q_2, .int 0])), (q_2, .inl (k_3, 1600, .inl (fun _ => 0)))]) hP hD [1] [0] rfl rfl (by decide) (by decide) hk1 hFc hP1 hD1
  have hK := hK.app hK1
  have hK : va_K (dC, dI) vwCl [(k_3, .byte)] s := hK
  generalize H1 = H at hP hS ⊢
  have hP : va_P (dC, dI) vwCl [(h0, .inr (6, [.null, .null, .int 0, .int 0, .int 0, .int 0, .int 0])), (q_1, .inr (10, [.ref q_2, .int 0])), (q_2, .inl (k_3, 1600, .inl (fun _ => 0)))] H := hP
  have hD : va_D A [(h0, .inr (6, [.null, .null, .int 0, .int 0, .int 0, .int 0, .int 0])), (q_1, .inr (10, [.ref q_2, .int 0])), (q_2, .inl (k_3, 1600, .inl (fun _ => 0)))] := hD
  refine W.widen (k := 2) (n := 1602) (Nat.le_of_ble_eq_true rfl) (Nat.le_of_ble_eq_true rfl) ?_
  refine va_putF (D := (dC, dI)) (ci := 6) (v := .ref q_1) (ty := .object "SightedMonths$Tape") (C := RX6) (T := TX6) (N := 7) hx hb hts (fun w h => List.mem_cons_of_mem _ (jnGA_X6 w h)) tyX6 tyX6_ok nmX6 hown hK hP hD hS 0 rfl rfl 0 (by decide) (hts _ (List.mem_cons_of_mem _ mGA_105)) (fun _ h9 => h9) rfl hin rfl (by decide +kernel) rfl rfl (Nat.le_of_ble_eq_true rfl) dX6_init_12 (fun H locs hP hD hS => ?_)
  have hP : va_P (dC, dI) vwCl [(h0, .inr (6, [.ref q_1, .null, .int 0, .int 0, .int 0, .int 0, .int 0])), (q_1, .inr (10, [.ref q_2, .int 0])), (q_2, .inl (k_3, 1600, .inl (fun _ => 0)))] H := hP
  have hD : va_D A [(h0, .inr (6, [.ref q_1, .null, .int 0, .int 0, .int 0, .int 0, .int 0])), (q_1, .inr (10, [.ref q_2, .int 0])), (q_2, .inl (k_3, 1600, .inl (fun _ => 0)))] := hD
  refine lv_aload_n hx hb dX6_init_15 rfl (lv_at hl 0 rfl) ?_
  refine va_new (ci := 0) (fs := [.int 0, .int 0, .int 0, .int 0, .int 0, .int 0, .int 0, .int 0, .int 0, .int 0, .null, .null, .null]) (C := RX0) (T := TX0) (N := 13) hx hb hts (fun w h => List.mem_cons_of_mem _ (jnGA_X0 w h)) tyX0 tyX0_ok hown (hts _ (List.mem_cons_of_mem _ mGA_106)) (hts _ (List.mem_cons_of_mem _ mGA_107)) (hts _ (List.mem_cons_of_mem _ mGA_108)) hK hP hD hS hA rfl dfX0 (Nat.le_of_ble_eq_true rfl) (Nat.le_of_ble_eq_true rfl) dX6_init_16 (fun q_5 H hP hD hS => ?_)
  have hP : va_P (dC, dI) vwCl [(h0, .inr (6, [.ref q_1, .null, .int 0, .int 0, .int 0, .int 0, .int 0])), (q_1, .inr (10, [.ref q_2, .int 0])), (q_2, .inl (k_3, 1600, .inl (fun _ => 0))), (q_5, .inr (0, [.int 0, .int 0, .int 0, .int 0, .int 0, .int 0, .int 0, .int 0, .int 0, .int 0, .null, .null, .null]))] H := hP
  have hD : va_D A [(h0, .inr (6, [.ref q_1, .null, .int 0, .int 0, .int 0, .int 0, .int 0])), (q_1, .inr (10, [.ref q_2, .int 0])), (q_2, .inl (k_3, 1600, .inl (fun _ => 0))), (q_5, .inr (0, [.int 0, .int 0, .int 0, .int 0, .int 0, .int 0, .int 0, .int 0, .int 0, .int 0, .null, .null, .null]))] := hD
  refine W.widen (k := 3) (n := 1615) (Nat.le_of_ble_eq_true rfl) (Nat.le_of_ble_eq_true rfl) ?_
  refine lv_dup hx hb dX6_init_19 rfl ?_
  have hPc := hP.sub (ws' := [(q_5, .inr (0, [.int 0, .int 0, .int 0, .int 0, .int 0, .int 0, .int 0, .int 0, .int 0, .int 0, .null, .null, .null]))]) [3] rfl
  have hDc := hD.sub (ws' := [(q_5, .inr (0, [.int 0, .int 0, .int 0, .int 0, .int 0, .int 0, .int 0, .int 0, .int 0, .int 0, .null, .null, .null]))]) [3] (by decide) rfl
  have hKc := hK.sub (tys' := []) [] rfl
  have hFc := va_free (wc := [(q_5, .inr (0, [.int 0, .int 0, .int 0, .int 0, .int 0, .int 0, .int 0, .int 0, .int 0, .int 0, .null, .null, .null]))]) hD hS hA [3] rfl
  refine va_callv (va_runI (As := []) (rest := [.ref q_5, .ref h0]) ⟨hx, hb, hml, hown, hts⟩ (fX0_init l dC dI H.size q_5) (cwI 0 hts (gz_gP mGA_109 goodGA) rfl rfl rfl (hts _ (List.mem_cons_of_mem _ mGA_108)) (hts _ (List.mem_cons_of_mem _ mGA_110)) (hts _ (List.mem_cons_of_mem _ mGA_111)) rfl (by decide +kernel) ⟨Nat.le_of_ble_eq_true rfl, Nat.le_of_ble_eq_true rfl⟩) ⟨fun a U g mk q => by obtain ⟨q0, q1, qP, qK, qD, qZ⟩ := q; exact ⟨q0, q1, qP, va_K.moved (u := U) (U := U.calling g mk a) (Vm.Alike.refl U.vm) qK, qD, nzA_same (u := U) (U := U.calling g mk a) rfl qZ⟩, fun U hU hW => ⟨rfl, by rw [hU], by rw [hU]; exact hPc, va_K.moved hW.alike hKc, hDc.weaken (fun _ _ _ _ => trivial), nzA_warm hW hz⟩⟩ rfl rfl hl.1 rfl (lv_room (Nat.le_of_ble_eq_true rfl)) dX6_init_20 ⟨Nat.le_of_ble_eq_true rfl, Nat.le_of_ble_eq_true rfl⟩) hS (fun q _ h => hFc q h) hFc (fun  u t H1 locs ht hvm hw hB hz1 hk1 hS => ?_)
  obtain ⟨q_6, q_7, q_8, hP1, hK1, hD1⟩ := hB
  rw [ht] at hP1
  have hK1 := va_K.moved hvm.symm hK1
  obtain ⟨hP, hD⟩ := va_join (wr := [(h0, .inr (6, [.ref q_1, .null, .int 0, .int 0, .int 0, .int 0, .int 0])), (q_1, .inr (10, [.ref q_2, .int 0])), (q_2, .inl (k_3, 1600, .inl (fun _ => 0)))]) (w1 := [(q_5, .inr (0, [.int 0, .int 0, .int 0, .int 0, .int 0, .int 0, .int 0, .int 0, .int 0, .int 0, .ref q_6, .ref q_7, .ref q_8]))]) hP hD [3] [0, 1, 2] rfl rfl (by decide) (by decide) hk1 hFc hP1 hD1
  generalize H1 = H at hP hS ⊢
  have hP : va_P (dC, dI) vwCl [(h0, .inr (6, [.ref q_1, .null, .int 0, .int 0, .int 0, .int 0, .int 0])), (q_1, .inr (10, [.ref q_2, .int 0])), (q_2, .inl (k_3, 1600, .inl (fun _ => 0))), (q_5, .inr (0, [.int 0, .int 0, .int 0, .int 0, .int 0, .int 0, .int 0, .int 0, .int 0, .int 0, .ref q_6, .ref q_7, .ref q_8]))] H := hP
  have hD : va_D A [(h0, .inr (6, [.ref q_1, .null, .int 0, .int 0, .int 0, .int 0, .int 0])), (q_1, .inr (10, [.ref q_2, .int 0])), (q_2, .inl (k_3, 1600, .inl (fun _ => 0))), (q_5, .inr (0, [.int 0, .int 0, .int 0, .int 0, .int 0, .int 0, .int 0, .int 0, .int 0, .int 0, .ref q_6, .ref q_7, .ref q_8]))] := hD
  refine W.widen (k := 44) (n := 1841) (Nat.le_of_ble_eq_true rfl) (Nat.le_of_ble_eq_true rfl) ?_
  refine va_put (D := (dC, dI)) (ci := 6) (v := .ref q_5) (ty := .object "SightedMonths$Almanac") (C := RX6) (T := TX6) (N := 7) hx hb hts (fun w h => List.mem_cons_of_mem _ (jnGA_X6 w h)) tyX6 tyX6_ok nmX6 hown hK hP hD hS 0 rfl rfl 1 (by decide) (hts _ (List.mem_cons_of_mem _ mGA_112)) (fun _ h9 => h9) rfl (by decide +kernel) rfl rfl (Nat.le_of_ble_eq_true rfl) dX6_init_23 (fun H locs hP hD hS => ?_)
  have hP : va_P (dC, dI) vwCl [(h0, .inr (6, [.ref q_1, .ref q_5, .int 0, .int 0, .int 0, .int 0, .int 0])), (q_1, .inr (10, [.ref q_2, .int 0])), (q_2, .inl (k_3, 1600, .inl (fun _ => 0))), (q_5, .inr (0, [.int 0, .int 0, .int 0, .int 0, .int 0, .int 0, .int 0, .int 0, .int 0, .int 0, .ref q_6, .ref q_7, .ref q_8]))] H := hP
  have hD : va_D A [(h0, .inr (6, [.ref q_1, .ref q_5, .int 0, .int 0, .int 0, .int 0, .int 0])), (q_1, .inr (10, [.ref q_2, .int 0])), (q_2, .inl (k_3, 1600, .inl (fun _ => 0))), (q_5, .inr (0, [.int 0, .int 0, .int 0, .int 0, .int 0, .int 0, .int 0, .int 0, .int 0, .int 0, .ref q_6, .ref q_7, .ref q_8]))] := hD
  refine lv_aload_n hx hb dX6_init_26 rfl (lv_at hl 0 rfl) ?_
  refine lv_iconst (v := 0) hx hb dX6_init_27 (by decide) ?_
  refine va_put (D := (dC, dI)) (ci := 6) (v := .int 0) (ty := .int) (C := RX6) (T := TX6) (N := 7) hx hb hts (fun w h => List.mem_cons_of_mem _ (jnGA_X6 w h)) tyX6 tyX6_ok nmX6 hown hK hP hD hS 0 rfl rfl 2 (by decide) (hts _ (List.mem_cons_of_mem _ mGA_113)) (fun _ h9 => h9) rfl (by decide +kernel) rfl rfl (Nat.le_of_ble_eq_true rfl) dX6_init_28 (fun H locs hP hD hS => ?_)
  have hP : va_P (dC, dI) vwCl [(h0, .inr (6, [.ref q_1, .ref q_5, .int 0, .int 0, .int 0, .int 0, .int 0])), (q_1, .inr (10, [.ref q_2, .int 0])), (q_2, .inl (k_3, 1600, .inl (fun _ => 0))), (q_5, .inr (0, [.int 0, .int 0, .int 0, .int 0, .int 0, .int 0, .int 0, .int 0, .int 0, .int 0, .ref q_6, .ref q_7, .ref q_8]))] H := hP
  have hD : va_D A [(h0, .inr (6, [.ref q_1, .ref q_5, .int 0, .int 0, .int 0, .int 0, .int 0])), (q_1, .inr (10, [.ref q_2, .int 0])), (q_2, .inl (k_3, 1600, .inl (fun _ => 0))), (q_5, .inr (0, [.int 0, .int 0, .int 0, .int 0, .int 0, .int 0, .int 0, .int 0, .int 0, .int 0, .ref q_6, .ref q_7, .ref q_8]))] := hD
  refine lv_aload_n hx hb dX6_init_31 rfl (lv_at hl 0 rfl) ?_
  refine lv_iconst (v := (-1)) hx hb dX6_init_32 (by decide) ?_
  refine va_put (D := (dC, dI)) (ci := 6) (v := .int (-1)) (ty := .int) (C := RX6) (T := TX6) (N := 7) hx hb hts (fun w h => List.mem_cons_of_mem _ (jnGA_X6 w h)) tyX6 tyX6_ok nmX6 hown hK hP hD hS 0 rfl rfl 3 (by decide) (hts _ (List.mem_cons_of_mem _ mGA_114)) (fun _ h9 => h9) rfl (by decide +kernel) rfl rfl (Nat.le_of_ble_eq_true rfl) dX6_init_33 (fun H locs hP hD hS => ?_)
  have hP : va_P (dC, dI) vwCl [(h0, .inr (6, [.ref q_1, .ref q_5, .int 0, .int (-1), .int 0, .int 0, .int 0])), (q_1, .inr (10, [.ref q_2, .int 0])), (q_2, .inl (k_3, 1600, .inl (fun _ => 0))), (q_5, .inr (0, [.int 0, .int 0, .int 0, .int 0, .int 0, .int 0, .int 0, .int 0, .int 0, .int 0, .ref q_6, .ref q_7, .ref q_8]))] H := hP
  have hD : va_D A [(h0, .inr (6, [.ref q_1, .ref q_5, .int 0, .int (-1), .int 0, .int 0, .int 0])), (q_1, .inr (10, [.ref q_2, .int 0])), (q_2, .inl (k_3, 1600, .inl (fun _ => 0))), (q_5, .inr (0, [.int 0, .int 0, .int 0, .int 0, .int 0, .int 0, .int 0, .int 0, .int 0, .int 0, .ref q_6, .ref q_7, .ref q_8]))] := hD
  refine lv_aload_n hx hb dX6_init_36 rfl (lv_at hl 0 rfl) ?_
  refine lv_iconst (v := 0) hx hb dX6_init_37 (by decide) ?_
  refine va_put (D := (dC, dI)) (ci := 6) (v := .int 0) (ty := .int) (C := RX6) (T := TX6) (N := 7) hx hb hts (fun w h => List.mem_cons_of_mem _ (jnGA_X6 w h)) tyX6 tyX6_ok nmX6 hown hK hP hD hS 0 rfl rfl 4 (by decide) (hts _ (List.mem_cons_of_mem _ mGA_115)) (fun _ h9 => h9) rfl (by decide +kernel) rfl rfl (Nat.le_of_ble_eq_true rfl) dX6_init_38 (fun H locs hP hD hS => ?_)
  have hP : va_P (dC, dI) vwCl [(h0, .inr (6, [.ref q_1, .ref q_5, .int 0, .int (-1), .int 0, .int 0, .int 0])), (q_1, .inr (10, [.ref q_2, .int 0])), (q_2, .inl (k_3, 1600, .inl (fun _ => 0))), (q_5, .inr (0, [.int 0, .int 0, .int 0, .int 0, .int 0, .int 0, .int 0, .int 0, .int 0, .int 0, .ref q_6, .ref q_7, .ref q_8]))] H := hP
  have hD : va_D A [(h0, .inr (6, [.ref q_1, .ref q_5, .int 0, .int (-1), .int 0, .int 0, .int 0])), (q_1, .inr (10, [.ref q_2, .int 0])), (q_2, .inl (k_3, 1600, .inl (fun _ => 0))), (q_5, .inr (0, [.int 0, .int 0, .int 0, .int 0, .int 0, .int 0, .int 0, .int 0, .int 0, .int 0, .ref q_6, .ref q_7, .ref q_8]))] := hD
  refine lv_aload_n hx hb dX6_init_41 rfl (lv_at hl 0 rfl) ?_
  refine lv_iconst (v := 0) hx hb dX6_init_42 (by decide) ?_
  refine va_put (D := (dC, dI)) (ci := 6) (v := .int 0) (ty := .int) (C := RX6) (T := TX6) (N := 7) hx hb hts (fun w h => List.mem_cons_of_mem _ (jnGA_X6 w h)) tyX6 tyX6_ok nmX6 hown hK hP hD hS 0 rfl rfl 5 (by decide) (hts _ (List.mem_cons_of_mem _ mGA_116)) (fun _ h9 => h9) rfl (by decide +kernel) rfl rfl (Nat.le_of_ble_eq_true rfl) dX6_init_43 (fun H locs hP hD hS => ?_)
  have hP : va_P (dC, dI) vwCl [(h0, .inr (6, [.ref q_1, .ref q_5, .int 0, .int (-1), .int 0, .int 0, .int 0])), (q_1, .inr (10, [.ref q_2, .int 0])), (q_2, .inl (k_3, 1600, .inl (fun _ => 0))), (q_5, .inr (0, [.int 0, .int 0, .int 0, .int 0, .int 0, .int 0, .int 0, .int 0, .int 0, .int 0, .ref q_6, .ref q_7, .ref q_8]))] H := hP
  have hD : va_D A [(h0, .inr (6, [.ref q_1, .ref q_5, .int 0, .int (-1), .int 0, .int 0, .int 0])), (q_1, .inr (10, [.ref q_2, .int 0])), (q_2, .inl (k_3, 1600, .inl (fun _ => 0))), (q_5, .inr (0, [.int 0, .int 0, .int 0, .int 0, .int 0, .int 0, .int 0, .int 0, .int 0, .int 0, .ref q_6, .ref q_7, .ref q_8]))] := hD
  refine lv_aload_n hx hb dX6_init_46 rfl (lv_at hl 0 rfl) ?_
  refine lv_iconst (v := 0) hx hb dX6_init_47 (by decide) ?_
  refine va_put (D := (dC, dI)) (ci := 6) (v := .int 0) (ty := .int) (C := RX6) (T := TX6) (N := 7) hx hb hts (fun w h => List.mem_cons_of_mem _ (jnGA_X6 w h)) tyX6 tyX6_ok nmX6 hown hK hP hD hS 0 rfl rfl 6 (by decide) (hts _ (List.mem_cons_of_mem _ mGA_117)) (fun _ h9 => h9) rfl (by decide +kernel) rfl rfl (Nat.le_of_ble_eq_true rfl) dX6_init_48 (fun H locs hP hD hS => ?_)
  have hP : va_P (dC, dI) vwCl [(h0, .inr (6, [.ref q_1, .ref q_5, .int 0, .int (-1), .int 0, .int 0, .int 0])), (q_1, .inr (10, [.ref q_2, .int 0])), (q_2, .inl (k_3, 1600, .inl (fun _ => 0))), (q_5, .inr (0, [.int 0, .int 0, .int 0, .int 0, .int 0, .int 0, .int 0, .int 0, .int 0, .int 0, .ref q_6, .ref q_7, .ref q_8]))] H := hP
  have hD : va_D A [(h0, .inr (6, [.ref q_1, .ref q_5, .int 0, .int (-1), .int 0, .int 0, .int 0])), (q_1, .inr (10, [.ref q_2, .int 0])), (q_2, .inl (k_3, 1600, .inl (fun _ => 0))), (q_5, .inr (0, [.int 0, .int 0, .int 0, .int 0, .int 0, .int 0, .int 0, .int 0, .int 0, .int 0, .ref q_6, .ref q_7, .ref q_8]))] := hD
  have hP9 := hP.sub (ws' := [(h0, .inr (6, [.ref q_1, .ref q_5, .int 0, .int (-1), .int 0, .int 0, .int 0])), (q_1, .inr (10, [.ref q_2, .int 0])), (q_2, .inl (k_3, 1600, .inl (fun _ => 0))), (q_5, .inr (0, [.int 0, .int 0, .int 0, .int 0, .int 0, .int 0, .int 0, .int 0, .int 0, .int 0, .ref q_6, .ref q_7, .ref q_8]))]) [0, 1, 2, 3] rfl
  have hD9 := hD.sub (ws' := [(h0, .inr (6, [.ref q_1, .ref q_5, .int 0, .int (-1), .int 0, .int 0, .int 0])), (q_1, .inr (10, [.ref q_2, .int 0])), (q_2, .inl (k_3, 1600, .inl (fun _ => 0))), (q_5, .inr (0, [.int 0, .int 0, .int 0, .int 0, .int 0, .int 0, .int 0, .int 0, .int 0, .int 0, .ref q_6, .ref q_7, .ref q_8]))]) [0, 1, 2, 3] (by decide) rfl
  have hK9 := hK.sub (tys' := [(k_3, .byte)]) [0] rfl
  exact W.vret hx hb hr (fun t ht hW => ⟨⟨(), rfl, trivial, (fun n => [0, 0, 0, 0, 0, 0, 0, 0, 0, 0, 0, q_1, q_5, q_2, 0, 0, 0, q_6, q_7, q_8].getD n 0), k_3, by rw [ht]; exact hP9, va_K.moved hW.alike hK9, hD9⟩, hS.F ht⟩) hS.2.2 dX6_init_51
theorem dX11_init_0 : decode cX11_init 0 = .ok (.aload_n 0, 1) := by decide +kernel
theorem dX11_init_1 : decode cX11_init 1 = .ok (.invokespecial 3, 3) := by decide +kernel
theorem dX11_init_4 : decode cX11_init 4 = .ok (.aload_n 0, 1) := by decide +kernel
theorem dX11_init_5 : decode cX11_init 5 = .ok (.new 9, 3) := by decide +kernel
theorem dX11_init_8 : decode cX11_init 8 = .ok (.dup, 1) := by decide +kernel
theorem dX11_init_9 : decode cX11_init 9 = .ok (.invokespecial 11, 3) := by decide +kernel
theorem dX11_init_12 : decode cX11_init 12 = .ok (.putfield 12, 3) := by decide +kernel
theorem dX11_init_15 : decode cX11_init 15 = .ok (.aload_n 0, 1) := by decide +kernel
theorem dX11_init_16 : decode cX11_init 16 = .ok (.new 16, 3) := by decide +kernel
theorem dX11_init_19 : decode cX11_init 19 = .ok (.dup, 1) := by decide +kernel
theorem dX11_init_20 : decode cX11_init 20 = .ok (.invokespecial 18, 3) := by decide +kernel
theorem dX11_init_23 : decode cX11_init 23 = .ok (.putfield 19, 3) := by decide +kernel
theorem dX11_init_26 : decode cX11_init 26 = .ok (.aload_n 0, 1) := by decide +kernel
theorem dX11_init_27 : decode cX11_init 27 = .ok (.new 16, 3) := by decide +kernel
theorem dX11_init_30 : decode cX11_init 30 = .ok (.dup, 1) := by decide +kernel
theorem dX11_init_31 : decode cX11_init 31 = .ok (.invokespecial 18, 3) := by decide +kernel
theorem dX11_init_34 : decode cX11_init 34 = .ok (.putfield 23, 3) := by decide +kernel
theorem dX11_init_37 : decode cX11_init 37 = .ok (.aload_n 0, 1) := by decide +kernel
theorem dX11_init_38 : decode cX11_init 38 = .ok (.new 26, 3) := by decide +kernel
theorem dX11_init_41 : decode cX11_init 41 = .ok (.dup, 1) := by decide +kernel
theorem dX11_init_42 : decode cX11_init 42 = .ok (.invokespecial 28, 3) := by decide +kernel
theorem dX11_init_45 : decode cX11_init 45 = .ok (.putfield 29, 3) := by decide +kernel
theorem dX11_init_48 : decode cX11_init 48 = .ok (.aload_n 0, 1) := by decide +kernel
theorem dX11_init_49 : decode cX11_init 49 = .ok (.new 33, 3) := by decide +kernel
theorem dX11_init_52 : decode cX11_init 52 = .ok (.dup, 1) := by decide +kernel
theorem dX11_init_53 : decode cX11_init 53 = .ok (.invokespecial 35, 3) := by decide +kernel
theorem dX11_init_56 : decode cX11_init 56 = .ok (.putfield 36, 3) := by decide +kernel
theorem dX11_init_59 : decode cX11_init 59 = .ok (.aload_n 0, 1) := by decide +kernel
theorem dX11_init_60 : decode cX11_init 60 = .ok (.new 33, 3) := by decide +kernel
theorem dX11_init_63 : decode cX11_init 63 = .ok (.dup, 1) := by decide +kernel
theorem dX11_init_64 : decode cX11_init 64 = .ok (.invokespecial 35, 3) := by decide +kernel
theorem dX11_init_67 : decode cX11_init 67 = .ok (.putfield 40, 3) := by decide +kernel
theorem dX11_init_70 : decode cX11_init 70 = .ok (.aload_n 0, 1) := by decide +kernel
theorem dX11_init_71 : decode cX11_init 71 = .ok (.new 43, 3) := by decide +kernel
theorem dX11_init_74 : decode cX11_init 74 = .ok (.dup, 1) := by decide +kernel
theorem dX11_init_75 : decode cX11_init 75 = .ok (.invokespecial 45, 3) := by decide +kernel
theorem dX11_init_78 : decode cX11_init 78 = .ok (.putfield 46, 3) := by decide +kernel
theorem dX11_init_81 : decode cX11_init 81 = .ok (.aload_n 0, 1) := by decide +kernel
theorem dX11_init_82 : decode cX11_init 82 = .ok (.new 50, 3) := by decide +kernel
theorem dX11_init_85 : decode cX11_init 85 = .ok (.dup, 1) := by decide +kernel
theorem dX11_init_86 : decode cX11_init 86 = .ok (.invokespecial 52, 3) := by decide +kernel
theorem dX11_init_89 : decode cX11_init 89 = .ok (.putfield 53, 3) := by decide +kernel
theorem dX11_init_92 : decode cX11_init 92 = .ok (.aload_n 0, 1) := by decide +kernel
theorem dX11_init_93 : decode cX11_init 93 = .ok (.new 57, 3) := by decide +kernel
theorem dX11_init_96 : decode cX11_init 96 = .ok (.dup, 1) := by decide +kernel
theorem dX11_init_97 : decode cX11_init 97 = .ok (.invokespecial 59, 3) := by decide +kernel
theorem dX11_init_100 : decode cX11_init 100 = .ok (.putfield 60, 3) := by decide +kernel
theorem dX11_init_103 : decode cX11_init 103 = .ok (.aload_n 0, 1) := by decide +kernel
theorem dX11_init_104 : decode cX11_init 104 = .ok (.bipush 25, 2) := by decide +kernel
theorem dX11_init_106 : decode cX11_init 106 = .ok (.newarray .int, 2) := by decide +kernel
theorem dX11_init_108 : decode cX11_init 108 = .ok (.putfield 64, 3) := by decide +kernel
theorem dX11_init_111 : decode cX11_init 111 = .ok (.aload_n 0, 1) := by decide +kernel
theorem dX11_init_112 : decode cX11_init 112 = .ok (.bipush 72, 2) := by decide +kernel
theorem dX11_init_114 : decode cX11_init 114 = .ok (.newarray .byte, 2) := by decide +kernel
theorem dX11_init_116 : decode cX11_init 116 = .ok (.putfield 68, 3) := by decide +kernel
theorem dX11_init_119 : decode cX11_init 119 = .ok (.aload_n 0, 1) := by decide +kernel
theorem dX11_init_120 : decode cX11_init 120 = .ok (.iconst 0, 1) := by decide +kernel
theorem dX11_init_121 : decode cX11_init 121 = .ok (.putfield 72, 3) := by decide +kernel
theorem dX11_init_124 : decode cX11_init 124 = .ok (.aload_n 0, 1) := by decide +kernel
theorem dX11_init_125 : decode cX11_init 125 = .ok (.iconst 0, 1) := by decide +kernel
theorem dX11_init_126 : decode cX11_init 126 = .ok (.putfield 76, 3) := by decide +kernel
theorem dX11_init_129 : decode cX11_init 129 = .ok (.aload_n 0, 1) := by decide +kernel
theorem dX11_init_130 : decode cX11_init 130 = .ok (.iconst (-1), 1) := by decide +kernel
theorem dX11_init_131 : decode cX11_init 131 = .ok (.putfield 80, 3) := by decide +kernel
theorem dX11_init_134 : decode cX11_init 134 = .ok (.aload_n 0, 1) := by decide +kernel
theorem dX11_init_135 : decode cX11_init 135 = .ok (.iconst 0, 1) := by decide +kernel
theorem dX11_init_136 : decode cX11_init 136 = .ok (.putfield 83, 3) := by decide +kernel
theorem dX11_init_139 : decode cX11_init 139 = .ok (.aload_n 0, 1) := by decide +kernel
theorem dX11_init_140 : decode cX11_init 140 = .ok (.iconst 0, 1) := by decide +kernel
theorem dX11_init_141 : decode cX11_init 141 = .ok (.putfield 86, 3) := by decide +kernel
theorem dX11_init_144 : decode cX11_init 144 = .ok (.return_, 1) := by decide +kernel
set_option maxHeartbeats 4000000 in
set_option maxRecDepth 100000 in
theorem fX11_init (l : Launch) (dC : Nat → ClassId) (dI : Nat → Nat → Nat) (sz : Nat) (h0 : Nat) : Met l yX11_init (.code yX11_init cX11_init 1 none :: wsGA) ({ frames := 4, cells := 160, slots := 15585, locals := 73 }) (va_Pc [.ref h0] (fun U => U.heap.size = sz ∧ va_P (dC, dI) vwCl [(h0, .inr (11, [.null, .null, .null, .null, .null, .null, .null, .null, .null, .null, .null, .int 0, .int 0, .int 0, .int 0, .int 0]))] U.heap ∧ va_K (dC, dI) vwCl [] U ∧ va_D (fun _ => True) [(h0, .inr (11, [.null, .null, .null, .null, .null, .null, .null, .null, .null, .null, .null, .int 0, .int 0, .int 0, .int 0, .int 0]))] ∧ nzA U)) (va_Qv (fun (u : Unit) => True) (fun _ t => ∃ (r : Nat → Nat) (k1 : ClassId), va_P (dC, dI) vwCl [(h0, .inr (11, fsX r)), ((r 0), .inr (6, fsR r)), ((r 11), .inr (10, fsT r)), ((r 13), .inl (k1, 1600, .inl (fun _ => 0))), ((r 12), .inr (0, fsD r)), ((r 1), .inr (0, fsA r))] t.heap ∧ va_K (dC, dI) vwCl [(k1, .byte)] t ∧ va_D (va_A [(h0, .inr (11, [.null, .null, .null, .null, .null, .null, .null, .null, .null, .null, .null, .int 0, .int 0, .int 0, .int 0, .int 0]))] sz) [(h0, .inr (11, fsX r)), ((r 0), .inr (6, fsR r)), ((r 11), .inr (10, fsT r)), ((r 13), .inl (k1, 1600, .inl (fun _ => 0))), ((r 12), .inr (0, fsD r)), ((r 1), .inr (0, fsA r))]) (va_A [(h0, .inr (11, [.null, .null, .null, .null, .null, .null, .null, .null, .null, .null, .null, .int 0, .int 0, .int 0, .int 0, .int 0]))] sz)) 160 15585 (va_A [(h0, .inr (11, [.null, .null, .null, .null, .null, .null, .null, .null, .null, .null, .null, .int 0, .int 0, .int 0, .int 0, .int 0]))] sz) := by
  refine Met.ofW (cc := cX11_init) (maxL := 1) (ret := none) (by decide) rfl ?_
  intro p e s m args below meth c s₁ B hml hv
  obtain ⟨rfl, hsz, hP, hK, hD0, hz⟩ := hv
  have hx := B.exec
  have hb := B.bytes
  have hr := B.returns
  have hts := atoms_spec (ws := (.code yX11_init cX11_init 1 none :: wsGA)) B.pre
  have hown : s.vm.findClass RX11 = some m.cls := findClass_of_methodNamed B.named
  have hlocks := B.notSynchronized
  have hin : meth.name = "<init>" := (name_of_methodNamed B.named B.method).1
  subst hsz
  have hD := hD0.self (sz := s.heap.size)
  generalize hAe : va_A [(h0, .inr (11, [.null, .null, .null, .null, .null, .null, .null, .null, .null, .null, .null, .int 0, .int 0, .int 0, .int 0, .int 0]))] s.heap.size = A at hD ⊢
  have hA : ∀ q : Nat, s.heap.size ≤ q → A q := fun q h => by rw [← hAe]; exact Or.inr h
  have hS : va_S A s.heap s.heap [] := va_S.rf
  have hl := lv_entry ([.ref h0]) (n := 1) (Nat.le_of_ble_eq_true rfl)
  rw [lg_entry_eq]
  generalize (lg_sl ([.ref h0]) ++ List.replicate (1 - (lg_sl ([.ref h0])).length) Slot.unset).toArray = ls at hl ⊢
  have hl : lv_has ls 1 [(0, .ref h0)] := hl
  refine lv_aload_n hx hb dX11_init_0 rfl (lv_at hl 0 rfl) ?_
  refine W.objInit hx hb hown (hts _ (List.mem_cons_of_mem _ mGA_118)) (hts _ (List.mem_cons_of_mem _ mGA_43)) (hts _ (List.mem_cons_of_mem _ mGA_44)) rfl (by rw [hml]; exact hl.1) rfl dX11_init_1 (Nat.le_of_ble_eq_true rfl) (Nat.le_of_ble_eq_true rfl) ?_
  refine W.eq (g2 := F0 m 4 ls []) rfl ?_
  refine lv_aload_n hx hb dX11_init_4 rfl (lv_at hl 0 rfl) ?_
  refine va_new (ci := 6) (fs := [.null, .null, .int 0, .int 0, .int 0, .int 0, .int 0]) (C := RX6) (T := TX6) (N := 7) hx hb hts (fun w h => List.mem_cons_of_mem _ (jnGA_X6 w h)) tyX6 tyX6_ok hown (hts _ (List.mem_cons_of_mem _ mGA_119)) (hts _ (List.mem_cons_of_mem _ mGA_120)) (hts _ (List.mem_cons_of_mem _ mGA_121)) hK hP hD hS hA rfl dfX6 (Nat.le_of_ble_eq_true rfl) (Nat.le_of_ble_eq_true rfl) dX11_init_5 (fun q_1 H hP hD hS => ?_)
  have hP : va_P (dC, dI) vwCl [(h0, .inr (11, [.null, .null, .null, .null, .null, .null, .null, .null, .null, .null, .null, .int 0, .int 0, .int 0, .int 0, .int 0])), (q_1, .inr (6, [.null, .null, .int 0, .int 0, .int 0, .int 0, .int 0]))] H := hP
  have hD : va_D A [(h0, .inr (11, [.null, .null, .null, .null, .null, .null, .null, .null, .null, .null, .null, .int 0, .int 0, .int 0, .int 0, .int 0])), (q_1, .inr (6, [.null, .null, .int 0, .int 0, .int 0, .int 0, .int 0]))] := hD
  refine W.widen (k := 1) (n := 7) (Nat.le_of_ble_eq_true rfl) (Nat.le_of_ble_eq_true rfl) ?_
  refine lv_dup hx hb dX11_init_8 rfl ?_
  have hPc := hP.sub (ws' := [(q_1, .inr (6, [.null, .null, .int 0, .int 0, .int 0, .int 0, .int 0]))]) [1] rfl
  have hDc := hD.sub (ws' := [(q_1, .inr (6, [.null, .null, .int 0, .int 0, .int 0, .int 0, .int 0]))]) [1] (by decide) rfl
  have hKc := hK.sub (tys' := []) [] rfl
  have hFc := va_free (wc := [(q_1, .inr (6, [.null, .null, .int 0, .int 0, .int 0, .int 0, .int 0]))]) hD hS hA [1] rfl
  refine va_callv (va_runIN (As := []) (rest := [.ref q_1, .ref h0]) ⟨hx, hb, hml, hown, hts⟩ (fX6_init l dC dI H.size q_1) (⟨va_cnB 0 hts (gz_gP mGA_122 goodGA) rfl rfl rfl (nzA_X11_11 hz) (hts _ (List.mem_cons_of_mem _ mGA_121)) (by decide +kernel) ⟨Nat.le_of_ble_eq_true rfl, Nat.le_of_ble_eq_true rfl⟩, rfl, (hts _ (List.mem_cons_of_mem _ mGA_123))⟩) ⟨fun a U g mk q => by obtain ⟨q0, q1, qP, qK, qD, qZ⟩ := q; exact ⟨q0, q1, qP, va_K.moved (u := U) (U := U.calling g mk a) (Vm.Alike.refl U.vm) qK, qD, nzA_same (u := U) (U := U.calling g mk a) rfl qZ⟩, fun U hU hW => ⟨rfl, by rw [hU], by rw [hU]; exact hPc, va_K.moved hW.alike hKc, hDc.weaken (fun _ _ _ _ => trivial), nzA_warm hW hz⟩⟩ rfl rfl hl.1 rfl (lv_room (Nat.le_of_ble_eq_true rfl)) dX11_init_9 ⟨Nat.le_of_ble_eq_true rfl, Nat.le_of_ble_eq_true rfl⟩) hS (fun q _ h => hFc q h) hFc (fun  u t H1 locs ht hvm hw hB hz1 hk1 hS => ?_)
  obtain ⟨r_2, k_3, hP1, hK1, hD1⟩ := hB
  rw [ht] at hP1
  have hK1 := va_K.moved hvm.symm hK1
  obtain ⟨hP, hD⟩ := va_join (wr := [(h0, .inr (11, [.null, .null, .null, .null, .null, .null, .null, .null, .null, .null, .null, .int 0, .int 0, .int 0, .int 0, .int 0]))]) (w1 := [(q_1, .inr (6, fsR r_2)), ((r_2 11), .inr (10, fsT r_2)), ((r_2 13), .inl (k_3, 1600, .inl (fun _ => 0))), ((r_2 12), .inr (0, fsD r_2))]) hP hD [1] [0] rfl rfl (by decide) (by decide) hk1 hFc hP1 hD1
  have hK := hK.app hK1
  have hK : va_K (dC, dI) vwCl [(k_3, .byte)] s := hK
  generalize H1 = H at hP hS ⊢
  have hP : va_P (dC, dI) vwCl [(h0, .inr (11, [.null, .null, .null, .null, .null, .null, .null, .null, .null, .null, .null, .int 0, .int 0, .int 0, .int 0, .int 0])), (q_1, .inr (6, fsR r_2)), ((r_2 11), .inr (10, fsT r_2)), ((r_2 13), .inl (k_3, 1600, .inl (fun _ => 0))), ((r_2 12), .inr (0, fsD r_2))] H := hP
  have hD : va_D A [(h0, .inr (11, [.null, .null, .null, .null, .null, .null, .null, .null, .null, .null, .null, .int 0, .int 0, .int 0, .int 0, .int 0])), (q_1, .inr (6, fsR r_2)), ((r_2 11), .inr (10, fsT r_2)), ((r_2 13), .inl (k_3, 1600, .inl (fun _ => 0))), ((r_2 12), .inr (0, fsD r_2))] := hD
  refine W.widen (k := 45) (n := 1848) (Nat.le_of_ble_eq_true rfl) (Nat.le_of_ble_eq_true rfl) ?_
  refine va_putF (D := (dC, dI)) (ci := 11) (v := .ref q_1) (ty := .object "SightedMonths$Reader") (C := RX11) (T := TX11) (N := 16) hx hb hts (fun w h => List.mem_cons_of_mem _ (jnGA_X11 w h)) tyX11 tyX11_ok nmX11 hown hK hP hD hS 0 rfl rfl 0 (by decide) (hts _ (List.mem_cons_of_mem _ mGA_31)) (fun _ h9 => h9) rfl hin rfl (by decide +kernel) rfl rfl (Nat.le_of_ble_eq_true rfl) dX11_init_12 (fun H locs hP hD hS => ?_)
  have hP : va_P (dC, dI) vwCl [(h0, .inr (11, [.ref q_1, .null, .null, .null, .null, .null, .null, .null, .null, .null, .null, .int 0, .int 0, .int 0, .int 0, .int 0])), (q_1, .inr (6, fsR r_2)), ((r_2 11), .inr (10, fsT r_2)), ((r_2 13), .inl (k_3, 1600, .inl (fun _ => 0))), ((r_2 12), .inr (0, fsD r_2))] H := hP
  have hD : va_D A [(h0, .inr (11, [.ref q_1, .null, .null, .null, .null, .null, .null, .null, .null, .null, .null, .int 0, .int 0, .int 0, .int 0, .int 0])), (q_1, .inr (6, fsR r_2)), ((r_2 11), .inr (10, fsT r_2)), ((r_2 13), .inl (k_3, 1600, .inl (fun _ => 0))), ((r_2 12), .inr (0, fsD r_2))] := hD
  refine lv_aload_n hx hb dX11_init_15 rfl (lv_at hl 0 rfl) ?_
  refine va_new (ci := 0) (fs := [.int 0, .int 0, .int 0, .int 0, .int 0, .int 0, .int 0, .int 0, .int 0, .int 0, .null, .null, .null]) (C := RX0) (T := TX0) (N := 13) hx hb hts (fun w h => List.mem_cons_of_mem _ (jnGA_X0 w h)) tyX0 tyX0_ok hown (hts _ (List.mem_cons_of_mem _ mGA_124)) (hts _ (List.mem_cons_of_mem _ mGA_107)) (hts _ (List.mem_cons_of_mem _ mGA_108)) hK hP hD hS hA rfl dfX0 (Nat.le_of_ble_eq_true rfl) (Nat.le_of_ble_eq_true rfl) dX11_init_16 (fun q_5 H hP hD hS => ?_)
  have hP : va_P (dC, dI) vwCl [(h0, .inr (11, [.ref q_1, .null, .null, .null, .null, .null, .null, .null, .null, .null, .null, .int 0, .int 0, .int 0, .int 0, .int 0])), (q_1, .inr (6, fsR r_2)), ((r_2 11), .inr (10, fsT r_2)), ((r_2 13), .inl (k_3, 1600, .inl (fun _ => 0))), ((r_2 12), .inr (0, fsD r_2)), (q_5, .inr (0, [.int 0, .int 0, .int 0, .int 0, .int 0, .int 0, .int 0, .int 0, .int 0, .int 0, .null, .null, .null]))] H := hP
  have hD : va_D A [(h0, .inr (11, [.ref q_1, .null, .null, .null, .null, .null, .null, .null, .null, .null, .null, .int 0, .int 0, .int 0, .int 0, .int 0])), (q_1, .inr (6, fsR r_2)), ((r_2 11), .inr (10, fsT r_2)), ((r_2 13), .inl (k_3, 1600, .inl (fun _ => 0))), ((r_2 12), .inr (0, fsD r_2)), (q_5, .inr (0, [.int 0, .int 0, .int 0, .int 0, .int 0, .int 0, .int 0, .int 0, .int 0, .int 0, .null, .null, .null]))] := hD
  refine W.widen (k := 46) (n := 1861) (Nat.le_of_ble_eq_true rfl) (Nat.le_of_ble_eq_true rfl) ?_
  refine lv_dup hx hb dX11_init_19 rfl ?_
  have hPc := hP.sub (ws' := [(q_5, .inr (0, [.int 0, .int 0, .int 0, .int 0, .int 0, .int 0, .int 0, .int 0, .int 0, .int 0, .null, .null, .null]))]) [5] rfl
  have hDc := hD.sub (ws' := [(q_5, .inr (0, [.int 0, .int 0, .int 0, .int 0, .int 0, .int 0, .int 0, .int 0, .int 0, .int 0, .null, .null, .null]))]) [5] (by decide) rfl
  have hKc := hK.sub (tys' := []) [] rfl
  have hFc := va_free (wc := [(q_5, .inr (0, [.int 0, .int 0, .int 0, .int 0, .int 0, .int 0, .int 0, .int 0, .int 0, .int 0, .null, .null, .null]))]) hD hS hA [5] rfl
  refine va_callv (va_runI (As := []) (rest := [.ref q_5, .ref h0]) ⟨hx, hb, hml, hown, hts⟩ (fX0_init l dC dI H.size q_5) (cwI 0 hts (gz_gP mGA_109 goodGA) rfl rfl rfl (hts _ (List.mem_cons_of_mem _ mGA_108)) (hts _ (List.mem_cons_of_mem _ mGA_125)) (hts _ (List.mem_cons_of_mem _ mGA_111)) rfl (by decide +kernel) ⟨Nat.le_of_ble_eq_true rfl, Nat.le_of_ble_eq_true rfl⟩) ⟨fun a U g mk q => by obtain ⟨q0, q1, qP, qK, qD, qZ⟩ := q; exact ⟨q0, q1, qP, va_K.moved (u := U) (U := U.calling g mk a) (Vm.Alike.refl U.vm) qK, qD, nzA_same (u := U) (U := U.calling g mk a) rfl qZ⟩, fun U hU hW => ⟨rfl, by rw [hU], by rw [hU]; exact hPc, va_K.moved hW.alike hKc, hDc.weaken (fun _ _ _ _ => trivial), nzA_warm hW hz⟩⟩ rfl rfl hl.1 rfl (lv_room (Nat.le_of_ble_eq_true rfl)) dX11_init_20 ⟨Nat.le_of_ble_eq_true rfl, Nat.le_of_ble_eq_true rfl⟩) hS (fun q _ h => hFc q h) hFc (fun  u t H1 locs ht hvm hw hB hz1 hk1 hS => ?_)
  obtain ⟨q_6, q_7, q_8, hP1, hK1, hD1⟩ := hB
  rw [ht] at hP1
  have hK1 := va_K.moved hvm.symm hK1
  obtain ⟨hP, hD⟩ := va_join (wr := [(h0, .inr (11, [.ref q_1, .null, .null, .null, .null, .null, .null, .null, .null, .null, .null, .int 0, .int 0, .int 0, .int 0, .int 0])), (q_1, .inr (6, fsR r_2)), ((r_2 11), .inr (10, fsT r_2)), ((r_2 13), .inl (k_3, 1600, .inl (fun _ => 0))), ((r_2 12), .inr (0, fsD r_2))]) (w1 := [(q_5, .inr (0, [.int 0, .int 0, .int 0, .int 0, .int 0, .int 0, .int 0, .int 0, .int 0, .int 0, .ref q_6, .ref q_7, .ref q_8]))]) hP hD [5] [0, 1, 2, 3, 4] rfl rfl (by decide) (by decide) hk1 hFc hP1 hD1
  generalize H1 = H at hP hS ⊢
  have hP : va_P (dC, dI) vwCl [(h0, .inr (11, [.ref q_1, .null, .null, .null, .null, .null, .null, .null, .null, .null, .null, .int 0, .int 0, .int 0, .int 0, .int 0])), (q_1, .inr (6, fsR r_2)), ((r_2 11), .inr (10, fsT r_2)), ((r_2 13), .inl (k_3, 1600, .inl (fun _ => 0))), ((r_2 12), .inr (0, fsD r_2)), (q_5, .inr (0, [.int 0, .int 0, .int 0, .int 0, .int 0, .int 0, .int 0, .int 0, .int 0, .int 0, .ref q_6, .ref q_7, .ref q_8]))] H := hP
  have hD : va_D A [(h0, .inr (11, [.ref q_1, .null, .null, .null, .null, .null, .null, .null, .null, .null, .null, .int 0, .int 0, .int 0, .int 0, .int 0])), (q_1, .inr (6, fsR r_2)), ((r_2 11), .inr (10, fsT r_2)), ((r_2 13), .inl (k_3, 1600, .inl (fun _ => 0))), ((r_2 12), .inr (0, fsD r_2)), (q_5, .inr (0, [.int 0, .int 0, .int 0, .int 0, .int 0, .int 0, .int 0, .int 0, .int 0, .int 0, .ref q_6, .ref q_7, .ref q_8]))] := hD
  refine W.widen (k := 87) (n := 2087) (Nat.le_of_ble_eq_true rfl) (Nat.le_of_ble_eq_true rfl) ?_
  refine va_put (D := (dC, dI)) (ci := 11) (v := .ref q_5) (ty := .object "SightedMonths$Almanac") (C := RX11) (T := TX11) (N := 16) hx hb hts (fun w h => List.mem_cons_of_mem _ (jnGA_X11 w h)) tyX11 tyX11_ok nmX11 hown hK hP hD hS 0 rfl rfl 1 (by decide) (hts _ (List.mem_cons_of_mem _ mGA_0)) (fun _ h9 => h9) rfl (by decide +kernel) rfl rfl (Nat.le_of_ble_eq_true rfl) dX11_init_23 (fun H locs hP hD hS => ?_)
  have hP : va_P (dC, dI) vwCl [(h0, .inr (11, [.ref q_1, .ref q_5, .null, .null, .null, .null, .null, .null, .null, .null, .null, .int 0, .int 0, .int 0, .int 0, .int 0])), (q_1, .inr (6, fsR r_2)), ((r_2 11), .inr (10, fsT r_2)), ((r_2 13), .inl (k_3, 1600, .inl (fun _ => 0))), ((r_2 12), .inr (0, fsD r_2)), (q_5, .inr (0, [.int 0, .int 0, .int 0, .int 0, .int 0, .int 0, .int 0, .int 0, .int 0, .int 0, .ref q_6, .ref q_7, .ref q_8]))] H := hP
  have hD : va_D A [(h0, .inr (11, [.ref q_1, .ref q_5, .null, .null, .null, .null, .null, .null, .null, .null, .null, .int 0, .int 0, .int 0, .int 0, .int 0])), (q_1, .inr (6, fsR r_2)), ((r_2 11), .inr (10, fsT r_2)), ((r_2 13), .inl (k_3, 1600, .inl (fun _ => 0))), ((r_2 12), .inr (0, fsD r_2)), (q_5, .inr (0, [.int 0, .int 0, .int 0, .int 0, .int 0, .int 0, .int 0, .int 0, .int 0, .int 0, .ref q_6, .ref q_7, .ref q_8]))] := hD
  refine lv_aload_n hx hb dX11_init_26 rfl (lv_at hl 0 rfl) ?_
  refine va_new (ci := 0) (fs := [.int 0, .int 0, .int 0, .int 0, .int 0, .int 0, .int 0, .int 0, .int 0, .int 0, .null, .null, .null]) (C := RX0) (T := TX0) (N := 13) hx hb hts (fun w h => List.mem_cons_of_mem _ (jnGA_X0 w h)) tyX0 tyX0_ok hown (hts _ (List.mem_cons_of_mem _ mGA_124)) (hts _ (List.mem_cons_of_mem _ mGA_107)) (hts _ (List.mem_cons_of_mem _ mGA_108)) hK hP hD hS hA rfl dfX0 (Nat.le_of_ble_eq_true rfl) (Nat.le_of_ble_eq_true rfl) dX11_init_27 (fun q_10 H hP hD hS => ?_)
  have hP : va_P (dC, dI) vwCl [(h0, .inr (11, [.ref q_1, .ref q_5, .null, .null, .null, .null, .null, .null, .null, .null, .null, .int 0, .int 0, .int 0, .int 0, .int 0])), (q_1, .inr (6, fsR r_2)), ((r_2 11), .inr (10, fsT r_2)), ((r_2 13), .inl (k_3, 1600, .inl (fun _ => 0))), ((r_2 12), .inr (0, fsD r_2)), (q_5, .inr (0, [.int 0, .int 0, .int 0, .int 0, .int 0, .int 0, .int 0, .int 0, .int 0, .int 0, .ref q_6, .ref q_7, .ref q_8])), (q_10, .inr (0, [.int 0, .int 0, .int 0, .int 0, .int 0, .int 0, .int 0, .int 0, .int 0, .int 0, .null, .null, .null]))] H := hP
  have hD : va_D A [(h0, .inr (11, [.ref q_1, .ref q_5, .null, .null, .null, .null, .null, .null, .null, .null, .null, .int 0, .int 0, .int 0, .int 0, .int 0])), (q_1, .inr (6, fsR r_2)), ((r_2 11), .inr (10, fsT r_2)), ((r_2 13), .inl (k_3, 1600, .inl (fun _ => 0))), ((r_2 12), .inr (0, fsD r_2)), (q_5, .inr (0, [.int 0, .int 0, .int 0, .int 0, .int 0, .int 0, .int 0, .int 0, .int 0, .int 0, .ref q_6, .ref q_7, .ref q_8])), (q_10, .inr (0, [.int 0, .int 0, .int 0, .int 0, .int 0, .int 0, .int 0, .int 0, .int 0, .int 0, .null, .null, .null]))] := hD
  refine W.widen (k := 88) (n := 2100) (Nat.le_of_ble_eq_true rfl) (Nat.le_of_ble_eq_true rfl) ?_
  refine lv_dup hx hb dX11_init_30 rfl ?_
  have hPc := hP.sub (ws' := [(q_10, .inr (0, [.int 0, .int 0, .int 0, .int 0, .int 0, .int 0, .int 0, .int 0, .int 0, .int 0, .null, .null, .null]))]) [6] rfl
  have hDc := hD.sub (ws' := [(q_10, .inr (0, [.int 0, .int 0, .int 0, .int 0, .int 0, .int 0, .int 0, .int 0, .int 0, .int 0, .null, .null, .null]))]) [6] (by decide) rfl
  have hKc := hK.sub (tys' := []) [] rfl
  have hFc := va_free (wc := [(q_10, .inr (0, [.int 0, .int 0, .int 0, .int 0, .int 0, .int 0, .int 0, .int 0, .int 0, .int 0, .null, .null, .null]))]) hD hS hA [6] rfl
  refine va_callv (va_runI (As := []) (rest := [.ref q_10, .ref h0]) ⟨hx, hb, hml, hown, hts⟩ (fX0_init l dC dI H.size q_10) (cwI 0 hts (gz_gP mGA_109 goodGA) rfl rfl rfl (hts _ (List.mem_cons_of_mem _ mGA_108)) (hts _ (List.mem_cons_of_mem _ mGA_125)) (hts _ (List.mem_cons_of_mem _ mGA_111)) rfl (by decide +kernel) ⟨Nat.le_of_ble_eq_true rfl, Nat.le_of_ble_eq_true rfl⟩) ⟨fun a U g mk q => by obtain ⟨q0, q1, qP, qK, qD, qZ⟩ := q; exact ⟨q0, q1, qP, va_K.moved (u := U) (U := U.calling g mk a) (Vm.Alike.refl U.vm) qK, qD, nzA_same (u := U) (U := U.calling g mk a) rfl qZ⟩, fun U hU hW => ⟨rfl, by rw [hU], by rw [hU]; exact hPc, va_K.moved hW.alike hKc, hDc.weaken (fun _ _ _ _ => trivial), nzA_warm hW hz⟩⟩ rfl rfl hl.1 rfl (lv_room (Nat.le_of_ble_eq_true rfl)) dX11_init_31 ⟨Nat.le_of_ble_eq_true rfl, Nat.le_of_ble_eq_true rfl⟩) hS (fun q _ h => hFc q h) hFc (fun  u t H1 locs ht hvm hw hB hz1 hk1 hS => ?_)
  obtain ⟨q_11, q_12, q_13, hP1, hK1, hD1⟩ := hB
  rw [ht] at hP1
  have hK1 := va_K.moved hvm.symm hK1
  obtain ⟨hP, hD⟩ := va_join (wr := [(h0, .inr (11, [.ref q_1, .ref q_5, .null, .null, .null, .null, .null, .null, .null, .null, .null, .int 0, .int 0, .int 0, .int 0, .int 0])), (q_1, .inr (6, fsR r_2)), ((r_2 11), .inr (10, fsT r_2)), ((r_2 13), .inl (k_3, 1600, .inl (fun _ => 0))), ((r_2 12), .inr (0, fsD r_2)), (q_5, .inr (0, [.int 0, .int 0, .int 0, .int 0, .int 0, .int 0, .int 0, .int 0, .int 0, .int 0, .ref q_6, .ref q_7, .ref q_8]))]) (w1 := [(q_10, .inr (0, [.int 0, .int 0, .int 0, .int 0, .int 0, .int 0, .int 0, .int 0, .int 0, .int 0, .ref q_11, .ref q_12, .ref q_13]))]) hP hD [6] [0, 1, 2, 3, 4, 5] rfl rfl (by decide) (by decide) hk1 hFc hP1 hD1
  generalize H1 = H at hP hS ⊢
  have hP : va_P (dC, dI) vwCl [(h0, .inr (11, [.ref q_1, .ref q_5, .null, .null, .null, .null, .null, .null, .null, .null, .null, .int 0, .int 0, .int 0, .int 0, .int 0])), (q_1, .inr (6, fsR r_2)), ((r_2 11), .inr (10, fsT r_2)), ((r_2 13), .inl (k_3, 1600, .inl (fun _ => 0))), ((r_2 12), .inr (0, fsD r_2)), (q_5, .inr (0, [.int 0, .int 0, .int 0, .int 0, .int 0, .int 0, .int 0, .int 0, .int 0, .int 0, .ref q_6, .ref q_7, .ref q_8])), (q_10, .inr (0, [.int 0, .int 0, .int 0, .int 0, .int 0, .int 0, .int 0, .int 0, .int 0, .int 0, .ref q_11, .ref q_12, .ref q_13]))] H := hP
  have hD : va_D A [(h0, .inr (11, [.ref q_1, .ref q_5, .null, .null, .null, .null, .null, .null, .null, .null, .null, .int 0, .int 0, .int 0, .int 0, .int 0])), (q_1, .inr (6, fsR r_2)), ((r_2 11), .inr (10, fsT r_2)), ((r_2 13), .inl (k_3, 1600, .inl (fun _ => 0))), ((r_2 12), .inr (0, fsD r_2)), (q_5, .inr (0, [.int 0, .int 0, .int 0, .int 0, .int 0, .int 0, .int 0, .int 0, .int 0, .int 0, .ref q_6, .ref q_7, .ref q_8])), (q_10, .inr (0, [.int 0, .int 0, .int 0, .int 0, .int 0, .int 0, .int 0, .int 0, .int 0, .int 0, .ref q_11, .ref q_12, .ref q_13]))] := hD
  refine W.widen (k := 129) (n := 2326) (Nat.le_of_ble_eq_true rfl) (Nat.le_of_ble_eq_true rfl) ?_
  refine va_putF (D := (dC, dI)) (ci := 11) (v := .ref q_10) (ty := .object "SightedMonths$Almanac") (C := RX11) (T := TX11) (N := 16) hx hb hts (fun w h => List.mem_cons_of_mem _ (jnGA_X11 w h)) tyX11 tyX11_ok nmX11 hown hK hP hD hS 0 rfl rfl 2 (by decide) (hts _ (List.mem_cons_of_mem _ mGA_126)) (fun _ h9 => h9) rfl hin rfl (by decide +kernel) rfl rfl (Nat.le_of_ble_eq_true rfl) dX11_init_34 (fun H locs hP hD hS => ?_)
  have hP : va_P (dC, dI) vwCl [(h0, .inr (11, [.ref q_1, .ref q_5, .ref q_10, .null, .null, .null, .null, .null, .null, .null, .null, .int 0, .int 0, .int 0, .int 0, .int 0])), (q_1, .inr (6, fsR r_2)), ((r_2 11), .inr (10, fsT r_2)), ((r_2 13), .inl (k_3, 1600, .inl (fun _ => 0))), ((r_2 12), .inr (0, fsD r_2)), (q_5, .inr (0, [.int 0, .int 0, .int 0, .int 0, .int 0, .int 0, .int 0, .int 0, .int 0, .int 0, .ref q_6, .ref q_7, .ref q_8])), (q_10, .inr (0, [.int 0, .int 0, .int 0, .int 0, .int 0, .int 0, .int 0, .int 0, .int 0, .int 0, .ref q_11, .ref q_12, .ref q_13]))] H := hP
  have hD : va_D A [(h0, .inr (11, [.ref q_1, .ref q_5, .ref q_10, .null, .null, .null, .null, .null, .null, .null, .null, .int 0, .int 0, .int 0, .int 0, .int 0])), (q_1, .inr (6, fsR r_2)), ((r_2 11), .inr (10, fsT r_2)), ((r_2 13), .inl (k_3, 1600, .inl (fun _ => 0))), ((r_2 12), .inr (0, fsD r_2)), (q_5, .inr (0, [.int 0, .int 0, .int 0, .int 0, .int 0, .int 0, .int 0, .int 0, .int 0, .int 0, .ref q_6, .ref q_7, .ref q_8])), (q_10, .inr (0, [.int 0, .int 0, .int 0, .int 0, .int 0, .int 0, .int 0, .int 0, .int 0, .int 0, .ref q_11, .ref q_12, .ref q_13]))] := hD
  refine lv_aload_n hx hb dX11_init_37 rfl (lv_at hl 0 rfl) ?_
  refine va_new (ci := 3) (fs := [.int 0, .int 0, .int 0, .null, .null]) (C := RX3) (T := TX3) (N := 5) hx hb hts (fun w h => List.mem_cons_of_mem _ (jnGA_X3 w h)) tyX3 tyX3_ok hown (hts _ (List.mem_cons_of_mem _ mGA_127)) (hts _ (List.mem_cons_of_mem _ mGA_64)) (hts _ (List.mem_cons_of_mem _ mGA_65)) hK hP hD hS hA rfl dfX3 (Nat.le_of_ble_eq_true rfl) (Nat.le_of_ble_eq_true rfl) dX11_init_38 (fun q_15 H hP hD hS => ?_)
  have hP : va_P (dC, dI) vwCl [(h0, .inr (11, [.ref q_1, .ref q_5, .ref q_10, .null, .null, .null, .null, .null, .null, .null, .null, .int 0, .int 0, .int 0, .int 0, .int 0])), (q_1, .inr (6, fsR r_2)), ((r_2 11), .inr (10, fsT r_2)), ((r_2 13), .inl (k_3, 1600, .inl (fun _ => 0))), ((r_2 12), .inr (0, fsD r_2)), (q_5, .inr (0, [.int 0, .int 0, .int 0, .int 0, .int 0, .int 0, .int 0, .int 0, .int 0, .int 0, .ref q_6, .ref q_7, .ref q_8])), (q_10, .inr (0, [.int 0, .int 0, .int 0, .int 0, .int 0, .int 0, .int 0, .int 0, .int 0, .int 0, .ref q_11, .ref q_12, .ref q_13])), (q_15, .inr (3, [.int 0, .int 0, .int 0, .null, .null]))] H := hP
  have hD : va_D A [(h0, .inr (11, [.ref q_1, .ref q_5, .ref q_10, .null, .null, .null, .null, .null, .null, .null, .null, .int 0, .int 0, .int 0, .int 0, .int 0])), (q_1, .inr (6, fsR r_2)), ((r_2 11), .inr (10, fsT r_2)), ((r_2 13), .inl (k_3, 1600, .inl (fun _ => 0))), ((r_2 12), .inr (0, fsD r_2)), (q_5, .inr (0, [.int 0, .int 0, .int 0, .int 0, .int 0, .int 0, .int 0, .int 0, .int 0, .int 0, .ref q_6, .ref q_7, .ref q_8])), (q_10, .inr (0, [.int 0, .int 0, .int 0, .int 0, .int 0, .int 0, .int 0, .int 0, .int 0, .int 0, .ref q_11, .ref q_12, .ref q_13])), (q_15, .inr (3, [.int 0, .int 0, .int 0, .null, .null]))] := hD
  refine W.widen (k := 130) (n := 2331) (Nat.le_of_ble_eq_true rfl) (Nat.le_of_ble_eq_true rfl) ?_
  refine lv_dup hx hb dX11_init_41 rfl ?_
  have hPc := hP.sub (ws' := [(q_15, .inr (3, [.int 0, .int 0, .int 0, .null, .null]))]) [7] rfl
  have hDc := hD.sub (ws' := [(q_15, .inr (3, [.int 0, .int 0, .int 0, .null, .null]))]) [7] (by decide) rfl
  have hKc := hK.sub (tys' := []) [] rfl
  have hFc := va_free (wc := [(q_15, .inr (3, [.int 0, .int 0, .int 0, .null, .null]))]) hD hS hA [7] rfl
  refine va_callv (va_runIN (As := []) (rest := [.ref q_15, .ref h0]) ⟨hx, hb, hml, hown, hts⟩ (fX3_init l dC dI H.size q_15) (⟨va_cnB 0 hts (gz_gP mGA_66 goodGA) rfl rfl rfl (nzA_X11_28 hz) (hts _ (List.mem_cons_of_mem _ mGA_65)) (by decide +kernel) ⟨Nat.le_of_ble_eq_true rfl, Nat.le_of_ble_eq_true rfl⟩, rfl, (hts _ (List.mem_cons_of_mem _ mGA_67))⟩) ⟨fun a U g mk q => by obtain ⟨q0, q1, qP, qK, qD⟩ := q; exact ⟨q0, q1, qP, va_K.moved (u := U) (U := U.calling g mk a) (Vm.Alike.refl U.vm) qK, qD⟩, fun U hU hW => ⟨rfl, by rw [hU], by rw [hU]; exact hPc, va_K.moved hW.alike hKc, hDc.weaken (fun _ _ _ _ => trivial)⟩⟩ rfl rfl hl.1 rfl (lv_room (Nat.le_of_ble_eq_true rfl)) dX11_init_42 ⟨Nat.le_of_ble_eq_true rfl, Nat.le_of_ble_eq_true rfl⟩) hS (fun q _ h => hFc q h) hFc (fun  u t H1 locs ht hvm hw hB hz1 hk1 hS => ?_)
  obtain ⟨hP, hD⟩ := va_join (wr := [(h0, .inr (11, [.ref q_1, .ref q_5, .ref q_10, .null, .null, .null, .null, .null, .null, .null, .null, .int 0, .int 0, .int 0, .int 0, .int 0])), (q_1, .inr (6, fsR r_2)), ((r_2 11), .inr (10, fsT r_2)), ((r_2 13), .inl (k_3, 1600, .inl (fun _ => 0))), ((r_2 12), .inr (0, fsD r_2)), (q_5, .inr (0, [.int 0, .int 0, .int 0, .int 0, .int 0, .int 0, .int 0, .int 0, .int 0, .int 0, .ref q_6, .ref q_7, .ref q_8])), (q_10, .inr (0, [.int 0, .int 0, .int 0, .int 0, .int 0, .int 0, .int 0, .int 0, .int 0, .int 0, .ref q_11, .ref q_12, .ref q_13]))]) (w1 := []) hP hD [7] [0, 1, 2, 3, 4, 5, 6] rfl rfl (by decide) (by decide) hk1 hFc gz_P0 gz_D0
  generalize H1 = H at hP hS ⊢
  have hP : va_P (dC, dI) vwCl [(h0, .inr (11, [.ref q_1, .ref q_5, .ref q_10, .null, .null, .null, .null, .null, .null, .null, .null, .int 0, .int 0, .int 0, .int 0, .int 0])), (q_1, .inr (6, fsR r_2)), ((r_2 11), .inr (10, fsT r_2)), ((r_2 13), .inl (k_3, 1600, .inl (fun _ => 0))), ((r_2 12), .inr (0, fsD r_2)), (q_5, .inr (0, [.int 0, .int 0, .int 0, .int 0, .int 0, .int 0, .int 0, .int 0, .int 0, .int 0, .ref q_6, .ref q_7, .ref q_8])), (q_10, .inr (0, [.int 0, .int 0, .int 0, .int 0, .int 0, .int 0, .int 0, .int 0, .int 0, .int 0, .ref q_11, .ref q_12, .ref q_13]))] H := hP
  have hD : va_D A [(h0, .inr (11, [.ref q_1, .ref q_5, .ref q_10, .null, .null, .null, .null, .null, .null, .null, .null, .int 0, .int 0, .int 0, .int 0, .int 0])), (q_1, .inr (6, fsR r_2)), ((r_2 11), .inr (10, fsT r_2)), ((r_2 13), .inl (k_3, 1600, .inl (fun _ => 0))), ((r_2 12), .inr (0, fsD r_2)), (q_5, .inr (0, [.int 0, .int 0, .int 0, .int 0, .int 0, .int 0, .int 0, .int 0, .int 0, .int 0, .ref q_6, .ref q_7, .ref q_8])), (q_10, .inr (0, [.int 0, .int 0, .int 0, .int 0, .int 0, .int 0, .int 0, .int 0, .int 0, .int 0, .ref q_11, .ref q_12, .ref q_13]))] := hD
  refine W.widen (k := 132) (n := 2631) (Nat.le_of_ble_eq_true rfl) (Nat.le_of_ble_eq_true rfl) ?_
  refine va_putF (D := (dC, dI)) (ci := 11) (v := .ref q_15) (ty := .object "SightedMonths$Frame") (C := RX11) (T := TX11) (N := 16) hx hb hts (fun w h => List.mem_cons_of_mem _ (jnGA_X11 w h)) tyX11 tyX11_ok nmX11 hown hK hP hD hS 0 rfl rfl 3 (by decide) (hts _ (List.mem_cons_of_mem _ mGA_128)) (fun _ h9 => h9) rfl hin rfl (by decide +kernel) rfl rfl (Nat.le_of_ble_eq_true rfl) dX11_init_45 (fun H locs hP hD hS => ?_)
  have hP : va_P (dC, dI) vwCl [(h0, .inr (11, [.ref q_1, .ref q_5, .ref q_10, .ref q_15, .null, .null, .null, .null, .null, .null, .null, .int 0, .int 0, .int 0, .int 0, .int 0])), (q_1, .inr (6, fsR r_2)), ((r_2 11), .inr (10, fsT r_2)), ((r_2 13), .inl (k_3, 1600, .inl (fun _ => 0))), ((r_2 12), .inr (0, fsD r_2)), (q_5, .inr (0, [.int 0, .int 0, .int 0, .int 0, .int 0, .int 0, .int 0, .int 0, .int 0, .int 0, .ref q_6, .ref q_7, .ref q_8])), (q_10, .inr (0, [.int 0, .int 0, .int 0, .int 0, .int 0, .int 0, .int 0, .int 0, .int 0, .int 0, .ref q_11, .ref q_12, .ref q_13]))] H := hP
  have hD : va_D A [(h0, .inr (11, [.ref q_1, .ref q_5, .ref q_10, .ref q_15, .null, .null, .null, .null, .null, .null, .null, .int 0, .int 0, .int 0, .int 0, .int 0])), (q_1, .inr (6, fsR r_2)), ((r_2 11), .inr (10, fsT r_2)), ((r_2 13), .inl (k_3, 1600, .inl (fun _ => 0))), ((r_2 12), .inr (0, fsD r_2)), (q_5, .inr (0, [.int 0, .int 0, .int 0, .int 0, .int 0, .int 0, .int 0, .int 0, .int 0, .int 0, .ref q_6, .ref q_7, .ref q_8])), (q_10, .inr (0, [.int 0, .int 0, .int 0, .int 0, .int 0, .int 0, .int 0, .int 0, .int 0, .int 0, .ref q_11, .ref q_12, .ref q_13]))] := hD
  refine lv_aload_n hx hb dX11_init_48 rfl (lv_at hl 0 rfl) ?_
  refine va_new (ci := 1) (fs := [.null, .null, .null, .null, .null, .int 0, .int 0]) (C := RX1) (T := TX1) (N := 7) hx hb hts (fun w h => List.mem_cons_of_mem _ (jnGA_X1 w h)) tyX1 tyX1_ok hown (hts _ (List.mem_cons_of_mem _ mGA_129)) (hts _ (List.mem_cons_of_mem _ mGA_130)) (hts _ (List.mem_cons_of_mem _ mGA_131)) hK hP hD hS hA rfl dfX1 (Nat.le_of_ble_eq_true rfl) (Nat.le_of_ble_eq_true rfl) dX11_init_49 (fun q_17 H hP hD hS => ?_)
  have hP : va_P (dC, dI) vwCl [(h0, .inr (11, [.ref q_1, .ref q_5, .ref q_10, .ref q_15, .null, .null, .null, .null, .null, .null, .null, .int 0, .int 0, .int 0, .int 0, .int 0])), (q_1, .inr (6, fsR r_2)), ((r_2 11), .inr (10, fsT r_2)), ((r_2 13), .inl (k_3, 1600, .inl (fun _ => 0))), ((r_2 12), .inr (0, fsD r_2)), (q_5, .inr (0, [.int 0, .int 0, .int 0, .int 0, .int 0, .int 0, .int 0, .int 0, .int 0, .int 0, .ref q_6, .ref q_7, .ref q_8])), (q_10, .inr (0, [.int 0, .int 0, .int 0, .int 0, .int 0, .int 0, .int 0, .int 0, .int 0, .int 0, .ref q_11, .ref q_12, .ref q_13])), (q_17, .inr (1, [.null, .null, .null, .null, .null, .int 0, .int 0]))] H := hP
  have hD : va_D A [(h0, .inr (11, [.ref q_1, .ref q_5, .ref q_10, .ref q_15, .null, .null, .null, .null, .null, .null, .null, .int 0, .int 0, .int 0, .int 0, .int 0])), (q_1, .inr (6, fsR r_2)), ((r_2 11), .inr (10, fsT r_2)), ((r_2 13), .inl (k_3, 1600, .inl (fun _ => 0))), ((r_2 12), .inr (0, fsD r_2)), (q_5, .inr (0, [.int 0, .int 0, .int 0, .int 0, .int 0, .int 0, .int 0, .int 0, .int 0, .int 0, .ref q_6, .ref q_7, .ref q_8])), (q_10, .inr (0, [.int 0, .int 0, .int 0, .int 0, .int 0, .int 0, .int 0, .int 0, .int 0, .int 0, .ref q_11, .ref q_12, .ref q_13])), (q_17, .inr (1, [.null, .null, .null, .null, .null, .int 0, .int 0]))] := hD
  refine W.widen (k := 133) (n := 2638) (Nat.le_of_ble_eq_true rfl) (Nat.le_of_ble_eq_true rfl) ?_
  refine lv_dup hx hb dX11_init_52 rfl ?_
  have hPc := hP.sub (ws' := [(q_17, .inr (1, [.null, .null, .null, .null, .null, .int 0, .int 0]))]) [7] rfl
  have hDc := hD.sub (ws' := [(q_17, .inr (1, [.null, .null, .null, .null, .null, .int 0, .int 0]))]) [7] (by decide) rfl
  have hKc := hK.sub (tys' := []) [] rfl
  have hFc := va_free (wc := [(q_17, .inr (1, [.null, .null, .null, .null, .null, .int 0, .int 0]))]) hD hS hA [7] rfl
  refine va_callv (va_runIN (As := []) (rest := [.ref q_17, .ref h0]) ⟨hx, hb, hml, hown, hts⟩ (fX1_init l dC dI H.size q_17) (⟨va_cnB 0 hts (gz_gP mGA_132 goodGA) rfl rfl rfl (nzA_X11_35 hz) (hts _ (List.mem_cons_of_mem _ mGA_131)) (by decide +kernel) ⟨Nat.le_of_ble_eq_true rfl, Nat.le_of_ble_eq_true rfl⟩, rfl, (hts _ (List.mem_cons_of_mem _ mGA_133))⟩) ⟨fun a U g mk q => by obtain ⟨q0, q1, qP, qK, qD, qZ⟩ := q; exact ⟨q0, q1, qP, va_K.moved (u := U) (U := U.calling g mk a) (Vm.Alike.refl U.vm) qK, qD, nzA_same (u := U) (U := U.calling g mk a) rfl qZ⟩, fun U hU hW => ⟨rfl, by rw [hU], by rw [hU]; exact hPc, va_K.moved hW.alike hKc, hDc.weaken (fun _ _ _ _ => trivial), nzA_warm hW hz⟩⟩ rfl rfl hl.1 rfl (lv_room (Nat.le_of_ble_eq_true rfl)) dX11_init_53 ⟨Nat.le_of_ble_eq_true rfl, Nat.le_of_ble_eq_true rfl⟩) hS (fun q _ h => hFc q h) hFc (fun  u t H1 locs ht hvm hw hB hz1 hk1 hS => ?_)
  obtain ⟨hP, hD⟩ := va_join (wr := [(h0, .inr (11, [.ref q_1, .ref q_5, .ref q_10, .ref q_15, .null, .null, .null, .null, .null, .null, .null, .int 0, .int 0, .int 0, .int 0, .int 0])), (q_1, .inr (6, fsR r_2)), ((r_2 11), .inr (10, fsT r_2)), ((r_2 13), .inl (k_3, 1600, .inl (fun _ => 0))), ((r_2 12), .inr (0, fsD r_2)), (q_5, .inr (0, [.int 0, .int 0, .int 0, .int 0, .int 0, .int 0, .int 0, .int 0, .int 0, .int 0, .ref q_6, .ref q_7, .ref q_8])), (q_10, .inr (0, [.int 0, .int 0, .int 0, .int 0, .int 0, .int 0, .int 0, .int 0, .int 0, .int 0, .ref q_11, .ref q_12, .ref q_13]))]) (w1 := []) hP hD [7] [0, 1, 2, 3, 4, 5, 6] rfl rfl (by decide) (by decide) hk1 hFc gz_P0 gz_D0
  generalize H1 = H at hP hS ⊢
  have hP : va_P (dC, dI) vwCl [(h0, .inr (11, [.ref q_1, .ref q_5, .ref q_10, .ref q_15, .null, .null, .null, .null, .null, .null, .null, .int 0, .int 0, .int 0, .int 0, .int 0])), (q_1, .inr (6, fsR r_2)), ((r_2 11), .inr (10, fsT r_2)), ((r_2 13), .inl (k_3, 1600, .inl (fun _ => 0))), ((r_2 12), .inr (0, fsD r_2)), (q_5, .inr (0, [.int 0, .int 0, .int 0, .int 0, .int 0, .int 0, .int 0, .int 0, .int 0, .int 0, .ref q_6, .ref q_7, .ref q_8])), (q_10, .inr (0, [.int 0, .int 0, .int 0, .int 0, .int 0, .int 0, .int 0, .int 0, .int 0, .int 0, .ref q_11, .ref q_12, .ref q_13]))] H := hP
  have hD : va_D A [(h0, .inr (11, [.ref q_1, .ref q_5, .ref q_10, .ref q_15, .null, .null, .null, .null, .null, .null, .null, .int 0, .int 0, .int 0, .int 0, .int 0])), (q_1, .inr (6, fsR r_2)), ((r_2 11), .inr (10, fsT r_2)), ((r_2 13), .inl (k_3, 1600, .inl (fun _ => 0))), ((r_2 12), .inr (0, fsD r_2)), (q_5, .inr (0, [.int 0, .int 0, .int 0, .int 0, .int 0, .int 0, .int 0, .int 0, .int 0, .int 0, .ref q_6, .ref q_7, .ref q_8])), (q_10, .inr (0, [.int 0, .int 0, .int 0, .int 0, .int 0, .int 0, .int 0, .int 0, .int 0, .int 0, .ref q_11, .ref q_12, .ref q_13]))] := hD
  refine W.widen (k := 140) (n := 3040) (Nat.le_of_ble_eq_true rfl) (Nat.le_of_ble_eq_true rfl) ?_
  refine va_putF (D := (dC, dI)) (ci := 11) (v := .ref q_17) (ty := .object "SightedMonths$Court") (C := RX11) (T := TX11) (N := 16) hx hb hts (fun w h => List.mem_cons_of_mem _ (jnGA_X11 w h)) tyX11 tyX11_ok nmX11 hown hK hP hD hS 0 rfl rfl 4 (by decide) (hts _ (List.mem_cons_of_mem _ mGA_134)) (fun _ h9 => h9) rfl hin rfl (by decide +kernel) rfl rfl (Nat.le_of_ble_eq_true rfl) dX11_init_56 (fun H locs hP hD hS => ?_)
  have hP : va_P (dC, dI) vwCl [(h0, .inr (11, [.ref q_1, .ref q_5, .ref q_10, .ref q_15, .ref q_17, .null, .null, .null, .null, .null, .null, .int 0, .int 0, .int 0, .int 0, .int 0])), (q_1, .inr (6, fsR r_2)), ((r_2 11), .inr (10, fsT r_2)), ((r_2 13), .inl (k_3, 1600, .inl (fun _ => 0))), ((r_2 12), .inr (0, fsD r_2)), (q_5, .inr (0, [.int 0, .int 0, .int 0, .int 0, .int 0, .int 0, .int 0, .int 0, .int 0, .int 0, .ref q_6, .ref q_7, .ref q_8])), (q_10, .inr (0, [.int 0, .int 0, .int 0, .int 0, .int 0, .int 0, .int 0, .int 0, .int 0, .int 0, .ref q_11, .ref q_12, .ref q_13]))] H := hP
  have hD : va_D A [(h0, .inr (11, [.ref q_1, .ref q_5, .ref q_10, .ref q_15, .ref q_17, .null, .null, .null, .null, .null, .null, .int 0, .int 0, .int 0, .int 0, .int 0])), (q_1, .inr (6, fsR r_2)), ((r_2 11), .inr (10, fsT r_2)), ((r_2 13), .inl (k_3, 1600, .inl (fun _ => 0))), ((r_2 12), .inr (0, fsD r_2)), (q_5, .inr (0, [.int 0, .int 0, .int 0, .int 0, .int 0, .int 0, .int 0, .int 0, .int 0, .int 0, .ref q_6, .ref q_7, .ref q_8])), (q_10, .inr (0, [.int 0, .int 0, .int 0, .int 0, .int 0, .int 0, .int 0, .int 0, .int 0, .int 0, .ref q_11, .ref q_12, .ref q_13]))] := hD
  refine lv_aload_n hx hb dX11_init_59 rfl (lv_at hl 0 rfl) ?_
  refine va_new (ci := 1) (fs := [.null, .null, .null, .null, .null, .int 0, .int 0]) (C := RX1) (T := TX1) (N := 7) hx hb hts (fun w h => List.mem_cons_of_mem _ (jnGA_X1 w h)) tyX1 tyX1_ok hown (hts _ (List.mem_cons_of_mem _ mGA_129)) (hts _ (List.mem_cons_of_mem _ mGA_130)) (hts _ (List.mem_cons_of_mem _ mGA_131)) hK hP hD hS hA rfl dfX1 (Nat.le_of_ble_eq_true rfl) (Nat.le_of_ble_eq_true rfl) dX11_init_60 (fun q_19 H hP hD hS => ?_)
  have hP : va_P (dC, dI) vwCl [(h0, .inr (11, [.ref q_1, .ref q_5, .ref q_10, .ref q_15, .ref q_17, .null, .null, .null, .null, .null, .null, .int 0, .int 0, .int 0, .int 0, .int 0])), (q_1, .inr (6, fsR r_2)), ((r_2 11), .inr (10, fsT r_2)), ((r_2 13), .inl (k_3, 1600, .inl (fun _ => 0))), ((r_2 12), .inr (0, fsD r_2)), (q_5, .inr (0, [.int 0, .int 0, .int 0, .int 0, .int 0, .int 0, .int 0, .int 0, .int 0, .int 0, .ref q_6, .ref q_7, .ref q_8])), (q_10, .inr (0, [.int 0, .int 0, .int 0, .int 0, .int 0, .int 0, .int 0, .int 0, .int 0, .int 0, .ref q_11, .ref q_12, .ref q_13])), (q_19, .inr (1, [.null, .null, .null, .null, .null, .int 0, .int 0]))] H := hP
  have hD : va_D A [(h0, .inr (11, [.ref q_1, .ref q_5, .ref q_10, .ref q_15, .ref q_17, .null, .null, .null, .null, .null, .null, .int 0, .int 0, .int 0, .int 0, .int 0])), (q_1, .inr (6, fsR r_2)), ((r_2 11), .inr (10, fsT r_2)), ((r_2 13), .inl (k_3, 1600, .inl (fun _ => 0))), ((r_2 12), .inr (0, fsD r_2)), (q_5, .inr (0, [.int 0, .int 0, .int 0, .int 0, .int 0, .int 0, .int 0, .int 0, .int 0, .int 0, .ref q_6, .ref q_7, .ref q_8])), (q_10, .inr (0, [.int 0, .int 0, .int 0, .int 0, .int 0, .int 0, .int 0, .int 0, .int 0, .int 0, .ref q_11, .ref q_12, .ref q_13])), (q_19, .inr (1, [.null, .null, .null, .null, .null, .int 0, .int 0]))] := hD
  refine W.widen (k := 141) (n := 3047) (Nat.le_of_ble_eq_true rfl) (Nat.le_of_ble_eq_true rfl) ?_
  refine lv_dup hx hb dX11_init_63 rfl ?_
  have hPc := hP.sub (ws' := [(q_19, .inr (1, [.null, .null, .null, .null, .null, .int 0, .int 0]))]) [7] rfl
  have hDc := hD.sub (ws' := [(q_19, .inr (1, [.null, .null, .null, .null, .null, .int 0, .int 0]))]) [7] (by decide) rfl
  have hKc := hK.sub (tys' := []) [] rfl
  have hFc := va_free (wc := [(q_19, .inr (1, [.null, .null, .null, .null, .null, .int 0, .int 0]))]) hD hS hA [7] rfl
  refine va_callv (va_runIN (As := []) (rest := [.ref q_19, .ref h0]) ⟨hx, hb, hml, hown, hts⟩ (fX1_init l dC dI H.size q_19) (⟨va_cnB 0 hts (gz_gP mGA_132 goodGA) rfl rfl rfl (nzA_X11_35 hz) (hts _ (List.mem_cons_of_mem _ mGA_131)) (by decide +kernel) ⟨Nat.le_of_ble_eq_true rfl, Nat.le_of_ble_eq_true rfl⟩, rfl, (hts _ (List.mem_cons_of_mem _ mGA_133))⟩) ⟨fun a U g mk q => by obtain ⟨q0, q1, qP, qK, qD, qZ⟩ := q; exact ⟨q0, q1, qP, va_K.moved (u := U) (U := U.calling g mk a) (Vm.Alike.refl U.vm) qK, qD, nzA_same (u := U) (U := U.calling g mk a) rfl qZ⟩, fun U hU hW => ⟨rfl, by rw [hU], by rw [hU]; exact hPc, va_K.moved hW.alike hKc, hDc.weaken (fun _ _ _ _ => trivial), nzA_warm hW hz⟩⟩ rfl rfl hl.1 rfl (lv_room (Nat.le_of_ble_eq_true rfl)) dX11_init_64 ⟨Nat.le_of_ble_eq_true rfl, Nat.le_of_ble_eq_true rfl⟩) hS (fun q _ h => hFc q h) hFc (fun  u t H1 locs ht hvm hw hB hz1 hk1 hS => ?_)
  obtain ⟨hP, hD⟩ := va_join (wr := [(h0, .inr (11, [.ref q_1, .ref q_5, .ref q_10, .ref q_15, .ref q_17, .null, .null, .null, .null, .null, .null, .int 0, .int 0, .int 0, .int 0, .int 0])), (q_1, .inr (6, fsR r_2)), ((r_2 11), .inr (10, fsT r_2)), ((r_2 13), .inl (k_3, 1600, .inl (fun _ => 0))), ((r_2 12), .inr (0, fsD r_2)), (q_5, .inr (0, [.int 0, .int 0, .int 0, .int 0, .int 0, .int 0, .int 0, .int 0, .int 0, .int 0, .ref q_6, .ref q_7, .ref q_8])), (q_10, .inr (0, [.int 0, .int 0, .int 0, .int 0, .int 0, .int 0, .int 0, .int 0, .int 0, .int 0, .ref q_11, .ref q_12, .ref q_13]))]) (w1 := []) hP hD [7] [0, 1, 2, 3, 4, 5, 6] rfl rfl (by decide) (by decide) hk1 hFc gz_P0 gz_D0
  generalize H1 = H at hP hS ⊢
  have hP : va_P (dC, dI) vwCl [(h0, .inr (11, [.ref q_1, .ref q_5, .ref q_10, .ref q_15, .ref q_17, .null, .null, .null, .null, .null, .null, .int 0, .int 0, .int 0, .int 0, .int 0])), (q_1, .inr (6, fsR r_2)), ((r_2 11), .inr (10, fsT r_2)), ((r_2 13), .inl (k_3, 1600, .inl (fun _ => 0))), ((r_2 12), .inr (0, fsD r_2)), (q_5, .inr (0, [.int 0, .int 0, .int 0, .int 0, .int 0, .int 0, .int 0, .int 0, .int 0, .int 0, .ref q_6, .ref q_7, .ref q_8])), (q_10, .inr (0, [.int 0, .int 0, .int 0, .int 0, .int 0, .int 0, .int 0, .int 0, .int 0, .int 0, .ref q_11, .ref q_12, .ref q_13]))] H := hP
  have hD : va_D A [(h0, .inr (11, [.ref q_1, .ref q_5, .ref q_10, .ref q_15, .ref q_17, .null, .null, .null, .null, .null, .null, .int 0, .int 0, .int 0, .int 0, .int 0])), (q_1, .inr (6, fsR r_2)), ((r_2 11), .inr (10, fsT r_2)), ((r_2 13), .inl (k_3, 1600, .inl (fun _ => 0))), ((r_2 12), .inr (0, fsD r_2)), (q_5, .inr (0, [.int 0, .int 0, .int 0, .int 0, .int 0, .int 0, .int 0, .int 0, .int 0, .int 0, .ref q_6, .ref q_7, .ref q_8])), (q_10, .inr (0, [.int 0, .int 0, .int 0, .int 0, .int 0, .int 0, .int 0, .int 0, .int 0, .int 0, .ref q_11, .ref q_12, .ref q_13]))] := hD
  refine W.widen (k := 148) (n := 3449) (Nat.le_of_ble_eq_true rfl) (Nat.le_of_ble_eq_true rfl) ?_
  refine va_putF (D := (dC, dI)) (ci := 11) (v := .ref q_19) (ty := .object "SightedMonths$Court") (C := RX11) (T := TX11) (N := 16) hx hb hts (fun w h => List.mem_cons_of_mem _ (jnGA_X11 w h)) tyX11 tyX11_ok nmX11 hown hK hP hD hS 0 rfl rfl 5 (by decide) (hts _ (List.mem_cons_of_mem _ mGA_135)) (fun _ h9 => h9) rfl hin rfl (by decide +kernel) rfl rfl (Nat.le_of_ble_eq_true rfl) dX11_init_67 (fun H locs hP hD hS => ?_)
  have hP : va_P (dC, dI) vwCl [(h0, .inr (11, [.ref q_1, .ref q_5, .ref q_10, .ref q_15, .ref q_17, .ref q_19, .null, .null, .null, .null, .null, .int 0, .int 0, .int 0, .int 0, .int 0])), (q_1, .inr (6, fsR r_2)), ((r_2 11), .inr (10, fsT r_2)), ((r_2 13), .inl (k_3, 1600, .inl (fun _ => 0))), ((r_2 12), .inr (0, fsD r_2)), (q_5, .inr (0, [.int 0, .int 0, .int 0, .int 0, .int 0, .int 0, .int 0, .int 0, .int 0, .int 0, .ref q_6, .ref q_7, .ref q_8])), (q_10, .inr (0, [.int 0, .int 0, .int 0, .int 0, .int 0, .int 0, .int 0, .int 0, .int 0, .int 0, .ref q_11, .ref q_12, .ref q_13]))] H := hP
  have hD : va_D A [(h0, .inr (11, [.ref q_1, .ref q_5, .ref q_10, .ref q_15, .ref q_17, .ref q_19, .null, .null, .null, .null, .null, .int 0, .int 0, .int 0, .int 0, .int 0])), (q_1, .inr (6, fsR r_2)), ((r_2 11), .inr (10, fsT r_2)), ((r_2 13), .inl (k_3, 1600, .inl (fun _ => 0))), ((r_2 12), .inr (0, fsD r_2)), (q_5, .inr (0, [.int 0, .int 0, .int 0, .int 0, .int 0, .int 0, .int 0, .int 0, .int 0, .int 0, .ref q_6, .ref q_7, .ref q_8])), (q_10, .inr (0, [.int 0, .int 0, .int 0, .int 0, .int 0, .int 0, .int 0, .int 0, .int 0, .int 0, .ref q_11, .ref q_12, .ref q_13]))] := hD
  refine lv_aload_n hx hb dX11_init_70 rfl (lv_at hl 0 rfl) ?_
  refine va_new (ci := 9) (fs := [.null, .null, .null, .int 0, .int 0, .int 0]) (C := RX9) (T := TX9) (N := 6) hx hb hts (fun w h => List.mem_cons_of_mem _ (jnGA_X9 w h)) tyX9 tyX9_ok hown (hts _ (List.mem_cons_of_mem _ mGA_136)) (hts _ (List.mem_cons_of_mem _ mGA_137)) (hts _ (List.mem_cons_of_mem _ mGA_138)) hK hP hD hS hA rfl dfX9 (Nat.le_of_ble_eq_true rfl) (Nat.le_of_ble_eq_true rfl) dX11_init_71 (fun q_21 H hP hD hS => ?_)
  have hP : va_P (dC, dI) vwCl [(h0, .inr (11, [.ref q_1, .ref q_5, .ref q_10, .ref q_15, .ref q_17, .ref q_19, .null, .null, .null, .null, .null, .int 0, .int 0, .int 0, .int 0, .int 0])), (q_1, .inr (6, fsR r_2)), ((r_2 11), .inr (10, fsT r_2)), ((r_2 13), .inl (k_3, 1600, .inl (fun _ => 0))), ((r_2 12), .inr (0, fsD r_2)), (q_5, .inr (0, [.int 0, .int 0, .int 0, .int 0, .int 0, .int 0, .int 0, .int 0, .int 0, .int 0, .ref q_6, .ref q_7, .ref q_8])), (q_10, .inr (0, [.int 0, .int 0, .int 0, .int 0, .int 0, .int 0, .int 0, .int 0, .int 0, .int 0, .ref q_11, .ref q_12, .ref q_13])), (q_21, .inr (9, [.null, .null, .null, .int 0, .int 0, .int 0]))] H := hP
  have hD : va_D A [(h0, .inr (11, [.ref q_1, .ref q_5, .ref q_10, .ref q_15, .ref q_17, .ref q_19, .null, .null, .null, .null, .null, .int 0, .int 0, .int 0, .int 0, .int 0])), (q_1, .inr (6, fsR r_2)), ((r_2 11), .inr (10, fsT r_2)), ((r_2 13), .inl (k_3, 1600, .inl (fun _ => 0))), ((r_2 12), .inr (0, fsD r_2)), (q_5, .inr (0, [.int 0, .int 0, .int 0, .int 0, .int 0, .int 0, .int 0, .int 0, .int 0, .int 0, .ref q_6, .ref q_7, .ref q_8])), (q_10, .inr (0, [.int 0, .int 0, .int 0, .int 0, .int 0, .int 0, .int 0, .int 0, .int 0, .int 0, .ref q_11, .ref q_12, .ref q_13])), (q_21, .inr (9, [.null, .null, .null, .int 0, .int 0, .int 0]))] := hD
  refine W.widen (k := 149) (n := 3455) (Nat.le_of_ble_eq_true rfl) (Nat.le_of_ble_eq_true rfl) ?_
  refine lv_dup hx hb dX11_init_74 rfl ?_
  have hPc := hP.sub (ws' := [(q_21, .inr (9, [.null, .null, .null, .int 0, .int 0, .int 0]))]) [7] rfl
  have hDc := hD.sub (ws' := [(q_21, .inr (9, [.null, .null, .null, .int 0, .int 0, .int 0]))]) [7] (by decide) rfl
  have hKc := hK.sub (tys' := []) [] rfl
  have hFc := va_free (wc := [(q_21, .inr (9, [.null, .null, .null, .int 0, .int 0, .int 0]))]) hD hS hA [7] rfl
  refine va_callv (va_runIN (As := []) (rest := [.ref q_21, .ref h0]) ⟨hx, hb, hml, hown, hts⟩ (fX9_init l dC dI H.size q_21) (⟨va_cnB 0 hts (gz_gP mGA_139 goodGA) rfl rfl rfl (nzA_X11_45 hz) (hts _ (List.mem_cons_of_mem _ mGA_138)) (by decide +kernel) ⟨Nat.le_of_ble_eq_true rfl, Nat.le_of_ble_eq_true rfl⟩, rfl, (hts _ (List.mem_cons_of_mem _ mGA_140))⟩) ⟨fun a U g mk q => by obtain ⟨q0, q1, qP, qK, qD⟩ := q; exact ⟨q0, q1, qP, va_K.moved (u := U) (U := U.calling g mk a) (Vm.Alike.refl U.vm) qK, qD⟩, fun U hU hW => ⟨rfl, by rw [hU], by rw [hU]; exact hPc, va_K.moved hW.alike hKc, hDc.weaken (fun _ _ _ _ => trivial)⟩⟩ rfl rfl hl.1 rfl (lv_room (Nat.le_of_ble_eq_true rfl)) dX11_init_75 ⟨Nat.le_of_ble_eq_true rfl, Nat.le_of_ble_eq_true rfl⟩) hS (fun q _ h => hFc q h) hFc (fun  u t H1 locs ht hvm hw hB hz1 hk1 hS => ?_)
  obtain ⟨hP, hD⟩ := va_join (wr := [(h0, .inr (11, [.ref q_1, .ref q_5, .ref q_10, .ref q_15, .ref q_17, .ref q_19, .null, .null, .null, .null, .null, .int 0, .int 0, .int 0, .int 0, .int 0])), (q_1, .inr (6, fsR r_2)), ((r_2 11), .inr (10, fsT r_2)), ((r_2 13), .inl (k_3, 1600, .inl (fun _ => 0))), ((r_2 12), .inr (0, fsD r_2)), (q_5, .inr (0, [.int 0, .int 0, .int 0, .int 0, .int 0, .int 0, .int 0, .int 0, .int 0, .int 0, .ref q_6, .ref q_7, .ref q_8])), (q_10, .inr (0, [.int 0, .int 0, .int 0, .int 0, .int 0, .int 0, .int 0, .int 0, .int 0, .int 0, .ref q_11, .ref q_12, .ref q_13]))]) (w1 := []) hP hD [7] [0, 1, 2, 3, 4, 5, 6] rfl rfl (by decide) (by decide) hk1 hFc gz_P0 gz_D0
  generalize H1 = H at hP hS ⊢
  have hP : va_P (dC, dI) vwCl [(h0, .inr (11, [.ref q_1, .ref q_5, .ref q_10, .ref q_15, .ref q_17, .ref q_19, .null, .null, .null, .null, .null, .int 0, .int 0, .int 0, .int 0, .int 0])), (q_1, .inr (6, fsR r_2)), ((r_2 11), .inr (10, fsT r_2)), ((r_2 13), .inl (k_3, 1600, .inl (fun _ => 0))), ((r_2 12), .inr (0, fsD r_2)), (q_5, .inr (0, [.int 0, .int 0, .int 0, .int 0, .int 0, .int 0, .int 0, .int 0, .int 0, .int 0, .ref q_6, .ref q_7, .ref q_8])), (q_10, .inr (0, [.int 0, .int 0, .int 0, .int 0, .int 0, .int 0, .int 0, .int 0, .int 0, .int 0, .ref q_11, .ref q_12, .ref q_13]))] H := hP
  have hD : va_D A [(h0, .inr (11, [.ref q_1, .ref q_5, .ref q_10, .ref q_15, .ref q_17, .ref q_19, .null, .null, .null, .null, .null, .int 0, .int 0, .int 0, .int 0, .int 0])), (q_1, .inr (6, fsR r_2)), ((r_2 11), .inr (10, fsT r_2)), ((r_2 13), .inl (k_3, 1600, .inl (fun _ => 0))), ((r_2 12), .inr (0, fsD r_2)), (q_5, .inr (0, [.int 0, .int 0, .int 0, .int 0, .int 0, .int 0, .int 0, .int 0, .int 0, .int 0, .ref q_6, .ref q_7, .ref q_8])), (q_10, .inr (0, [.int 0, .int 0, .int 0, .int 0, .int 0, .int 0, .int 0, .int 0, .int 0, .int 0, .ref q_11, .ref q_12, .ref q_13]))] := hD
  refine W.widen (k := 152) (n := 10930) (Nat.le_of_ble_eq_true rfl) (Nat.le_of_ble_eq_true rfl) ?_
  refine va_putF (D := (dC, dI)) (ci := 11) (v := .ref q_21) (ty := .object "SightedMonths$Tally") (C := RX11) (T := TX11) (N := 16) hx hb hts (fun w h => List.mem_cons_of_mem _ (jnGA_X11 w h)) tyX11 tyX11_ok nmX11 hown hK hP hD hS 0 rfl rfl 6 (by decide) (hts _ (List.mem_cons_of_mem _ mGA_141)) (fun _ h9 => h9) rfl hin rfl (by decide +kernel) rfl rfl (Nat.le_of_ble_eq_true rfl) dX11_init_78 (fun H locs hP hD hS => ?_)
  have hP : va_P (dC, dI) vwCl [(h0, .inr (11, [.ref q_1, .ref q_5, .ref q_10, .ref q_15, .ref q_17, .ref q_19, .ref q_21, .null, .null, .null, .null, .int 0, .int 0, .int 0, .int 0, .int 0])), (q_1, .inr (6, fsR r_2)), ((r_2 11), .inr (10, fsT r_2)), ((r_2 13), .inl (k_3, 1600, .inl (fun _ => 0))), ((r_2 12), .inr (0, fsD r_2)), (q_5, .inr (0, [.int 0, .int 0, .int 0, .int 0, .int 0, .int 0, .int 0, .int 0, .int 0, .int 0, .ref q_6, .ref q_7, .ref q_8])), (q_10, .inr (0, [.int 0, .int 0, .int 0, .int 0, .int 0, .int 0, .int 0, .int 0, .int 0, .int 0, .ref q_11, .ref q_12, .ref q_13]))] H := hP
  have hD : va_D A [(h0, .inr (11, [.ref q_1, .ref q_5, .ref q_10, .ref q_15, .ref q_17, .ref q_19, .ref q_21, .null, .null, .null, .null, .int 0, .int 0, .int 0, .int 0, .int 0])), (q_1, .inr (6, fsR r_2)), ((r_2 11), .inr (10, fsT r_2)), ((r_2 13), .inl (k_3, 1600, .inl (fun _ => 0))), ((r_2 12), .inr (0, fsD r_2)), (q_5, .inr (0, [.int 0, .int 0, .int 0, .int 0, .int 0, .int 0, .int 0, .int 0, .int 0, .int 0, .ref q_6, .ref q_7, .ref q_8])), (q_10, .inr (0, [.int 0, .int 0, .int 0, .int 0, .int 0, .int 0, .int 0, .int 0, .int 0, .int 0, .ref q_11, .ref q_12, .ref q_13]))] := hD
  refine lv_aload_n hx hb dX11_init_81 rfl (lv_at hl 0 rfl) ?_
  refine va_new (ci := 8) (fs := [.null, .null, .int 0, .int 0, .int 0]) (C := RX8) (T := TX8) (N := 5) hx hb hts (fun w h => List.mem_cons_of_mem _ (jnGA_X8 w h)) tyX8 tyX8_ok hown (hts _ (List.mem_cons_of_mem _ mGA_142)) (hts _ (List.mem_cons_of_mem _ mGA_143)) (hts _ (List.mem_cons_of_mem _ mGA_144)) hK hP hD hS hA rfl dfX8 (Nat.le_of_ble_eq_true rfl) (Nat.le_of_ble_eq_true rfl) dX11_init_82 (fun q_23 H hP hD hS => ?_)
  have hP : va_P (dC, dI) vwCl [(h0, .inr (11, [.ref q_1, .ref q_5, .ref q_10, .ref q_15, .ref q_17, .ref q_19, .ref q_21, .null, .null, .null, .null, .int 0, .int 0, .int 0, .int 0, .int 0])), (q_1, .inr (6, fsR r_2)), ((r_2 11), .inr (10, fsT r_2)), ((r_2 13), .inl (k_3, 1600, .inl (fun _ => 0))), ((r_2 12), .inr (0, fsD r_2)), (q_5, .inr (0, [.int 0, .int 0, .int 0, .int 0, .int 0, .int 0, .int 0, .int 0, .int 0, .int 0, .ref q_6, .ref q_7, .ref q_8])), (q_10, .inr (0, [.int 0, .int 0, .int 0, .int 0, .int 0, .int 0, .int 0, .int 0, .int 0, .int 0, .ref q_11, .ref q_12, .ref q_13])), (q_23, .inr (8, [.null, .null, .int 0, .int 0, .int 0]))] H := hP
  have hD : va_D A [(h0, .inr (11, [.ref q_1, .ref q_5, .ref q_10, .ref q_15, .ref q_17, .ref q_19, .ref q_21, .null, .null, .null, .null, .int 0, .int 0, .int 0, .int 0, .int 0])), (q_1, .inr (6, fsR r_2)), ((r_2 11), .inr (10, fsT r_2)), ((r_2 13), .inl (k_3, 1600, .inl (fun _ => 0))), ((r_2 12), .inr (0, fsD r_2)), (q_5, .inr (0, [.int 0, .int 0, .int 0, .int 0, .int 0, .int 0, .int 0, .int 0, .int 0, .int 0, .ref q_6, .ref q_7, .ref q_8])), (q_10, .inr (0, [.int 0, .int 0, .int 0, .int 0, .int 0, .int 0, .int 0, .int 0, .int 0, .int 0, .ref q_11, .ref q_12, .ref q_13])), (q_23, .inr (8, [.null, .null, .int 0, .int 0, .int 0]))] := hD
  refine W.widen (k := 153) (n := 10935) (Nat.le_of_ble_eq_true rfl) (Nat.le_of_ble_eq_true rfl) ?_
  refine lv_dup hx hb dX11_init_85 rfl ?_
  have hPc := hP.sub (ws' := [(q_23, .inr (8, [.null, .null, .int 0, .int 0, .int 0]))]) [7] rfl
  have hDc := hD.sub (ws' := [(q_23, .inr (8, [.null, .null, .int 0, .int 0, .int 0]))]) [7] (by decide) rfl
  have hKc := hK.sub (tys' := []) [] rfl
  have hFc := va_free (wc := [(q_23, .inr (8, [.null, .null, .int 0, .int 0, .int 0]))]) hD hS hA [7] rfl
  refine va_callv (va_runIN (As := []) (rest := [.ref q_23, .ref h0]) ⟨hx, hb, hml, hown, hts⟩ (fX8_init l dC dI H.size q_23) (⟨va_cnB 0 hts (gz_gP mGA_145 goodGA) rfl rfl rfl (nzA_X11_52 hz) (hts _ (List.mem_cons_of_mem _ mGA_144)) (by decide +kernel) ⟨Nat.le_of_ble_eq_true rfl, Nat.le_of_ble_eq_true rfl⟩, rfl, (hts _ (List.mem_cons_of_mem _ mGA_146))⟩) ⟨fun a U g mk q => by obtain ⟨q0, q1, qP, qK, qD⟩ := q; exact ⟨q0, q1, qP, va_K.moved (u := U) (U := U.calling g mk a) (Vm.Alike.refl U.vm) qK, qD⟩, fun U hU hW => ⟨rfl, by rw [hU], by rw [hU]; exact hPc, va_K.moved hW.alike hKc, hDc.weaken (fun _ _ _ _ => trivial)⟩⟩ rfl rfl hl.1 rfl (lv_room (Nat.le_of_ble_eq_true rfl)) dX11_init_86 ⟨Nat.le_of_ble_eq_true rfl, Nat.le_of_ble_eq_true rfl⟩) hS (fun q _ h => hFc q h) hFc (fun  u t H1 locs ht hvm hw hB hz1 hk1 hS => ?_)
  obtain ⟨hP, hD⟩ := va_join (wr := [(h0, .inr (11, [.ref q_1, .ref q_5, .ref q_10, .ref q_15, .ref q_17, .ref q_19, .ref q_21, .null, .null, .null, .null, .int 0, .int 0, .int 0, .int 0, .int 0])), (q_1, .inr (6, fsR r_2)), ((r_2 11), .inr (10, fsT r_2)), ((r_2 13), .inl (k_3, 1600, .inl (fun _ => 0))), ((r_2 12), .inr (0, fsD r_2)), (q_5, .inr (0, [.int 0, .int 0, .int 0, .int 0, .int 0, .int 0, .int 0, .int 0, .int 0, .int 0, .ref q_6, .ref q_7, .ref q_8])), (q_10, .inr (0, [.int 0, .int 0, .int 0, .int 0, .int 0, .int 0, .int 0, .int 0, .int 0, .int 0, .ref q_11, .ref q_12, .ref q_13]))]) (w1 := []) hP hD [7] [0, 1, 2, 3, 4, 5, 6] rfl rfl (by decide) (by decide) hk1 hFc gz_P0 gz_D0
  generalize H1 = H at hP hS ⊢
  have hP : va_P (dC, dI) vwCl [(h0, .inr (11, [.ref q_1, .ref q_5, .ref q_10, .ref q_15, .ref q_17, .ref q_19, .ref q_21, .null, .null, .null, .null, .int 0, .int 0, .int 0, .int 0, .int 0])), (q_1, .inr (6, fsR r_2)), ((r_2 11), .inr (10, fsT r_2)), ((r_2 13), .inl (k_3, 1600, .inl (fun _ => 0))), ((r_2 12), .inr (0, fsD r_2)), (q_5, .inr (0, [.int 0, .int 0, .int 0, .int 0, .int 0, .int 0, .int 0, .int 0, .int 0, .int 0, .ref q_6, .ref q_7, .ref q_8])), (q_10, .inr (0, [.int 0, .int 0, .int 0, .int 0, .int 0, .int 0, .int 0, .int 0, .int 0, .int 0, .ref q_11, .ref q_12, .ref q_13]))] H := hP
  have hD : va_D A [(h0, .inr (11, [.ref q_1, .ref q_5, .ref q_10, .ref q_15, .ref q_17, .ref q_19, .ref q_21, .null, .null, .null, .null, .int 0, .int 0, .int 0, .int 0, .int 0])), (q_1, .inr (6, fsR r_2)), ((r_2 11), .inr (10, fsT r_2)), ((r_2 13), .inl (k_3, 1600, .inl (fun _ => 0))), ((r_2 12), .inr (0, fsD r_2)), (q_5, .inr (0, [.int 0, .int 0, .int 0, .int 0, .int 0, .int 0, .int 0, .int 0, .int 0, .int 0, .ref q_6, .ref q_7, .ref q_8])), (q_10, .inr (0, [.int 0, .int 0, .int 0, .int 0, .int 0, .int 0, .int 0, .int 0, .int 0, .int 0, .ref q_11, .ref q_12, .ref q_13]))] := hD
  refine W.widen (k := 155) (n := 14835) (Nat.le_of_ble_eq_true rfl) (Nat.le_of_ble_eq_true rfl) ?_
  refine va_putF (D := (dC, dI)) (ci := 11) (v := .ref q_23) (ty := .object "SightedMonths$Search") (C := RX11) (T := TX11) (N := 16) hx hb hts (fun w h => List.mem_cons_of_mem _ (jnGA_X11 w h)) tyX11 tyX11_ok nmX11 hown hK hP hD hS 0 rfl rfl 7 (by decide) (hts _ (List.mem_cons_of_mem _ mGA_147)) (fun _ h9 => h9) rfl hin rfl (by decide +kernel) rfl rfl (Nat.le_of_ble_eq_true rfl) dX11_init_89 (fun H locs hP hD hS => ?_)
  have hP : va_P (dC, dI) vwCl [(h0, .inr (11, [.ref q_1, .ref q_5, .ref q_10, .ref q_15, .ref q_17, .ref q_19, .ref q_21, .ref q_23, .null, .null, .null, .int 0, .int 0, .int 0, .int 0, .int 0])), (q_1, .inr (6, fsR r_2)), ((r_2 11), .inr (10, fsT r_2)), ((r_2 13), .inl (k_3, 1600, .inl (fun _ => 0))), ((r_2 12), .inr (0, fsD r_2)), (q_5, .inr (0, [.int 0, .int 0, .int 0, .int 0, .int 0, .int 0, .int 0, .int 0, .int 0, .int 0, .ref q_6, .ref q_7, .ref q_8])), (q_10, .inr (0, [.int 0, .int 0, .int 0, .int 0, .int 0, .int 0, .int 0, .int 0, .int 0, .int 0, .ref q_11, .ref q_12, .ref q_13]))] H := hP
  have hD : va_D A [(h0, .inr (11, [.ref q_1, .ref q_5, .ref q_10, .ref q_15, .ref q_17, .ref q_19, .ref q_21, .ref q_23, .null, .null, .null, .int 0, .int 0, .int 0, .int 0, .int 0])), (q_1, .inr (6, fsR r_2)), ((r_2 11), .inr (10, fsT r_2)), ((r_2 13), .inl (k_3, 1600, .inl (fun _ => 0))), ((r_2 12), .inr (0, fsD r_2)), (q_5, .inr (0, [.int 0, .int 0, .int 0, .int 0, .int 0, .int 0, .int 0, .int 0, .int 0, .int 0, .ref q_6, .ref q_7, .ref q_8])), (q_10, .inr (0, [.int 0, .int 0, .int 0, .int 0, .int 0, .int 0, .int 0, .int 0, .int 0, .int 0, .ref q_11, .ref q_12, .ref q_13]))] := hD
  refine lv_aload_n hx hb dX11_init_92 rfl (lv_at hl 0 rfl) ?_
  refine va_new (ci := 4) (fs := [.null, .null, .int 0]) (C := RX4) (T := TX4) (N := 3) hx hb hts (fun w h => List.mem_cons_of_mem _ (jnGA_X4 w h)) tyX4 tyX4_ok hown (hts _ (List.mem_cons_of_mem _ mGA_148)) (hts _ (List.mem_cons_of_mem _ mGA_149)) (hts _ (List.mem_cons_of_mem _ mGA_150)) hK hP hD hS hA rfl dfX4 (Nat.le_of_ble_eq_true rfl) (Nat.le_of_ble_eq_true rfl) dX11_init_93 (fun q_25 H hP hD hS => ?_)
  have hP : va_P (dC, dI) vwCl [(h0, .inr (11, [.ref q_1, .ref q_5, .ref q_10, .ref q_15, .ref q_17, .ref q_19, .ref q_21, .ref q_23, .null, .null, .null, .int 0, .int 0, .int 0, .int 0, .int 0])), (q_1, .inr (6, fsR r_2)), ((r_2 11), .inr (10, fsT r_2)), ((r_2 13), .inl (k_3, 1600, .inl (fun _ => 0))), ((r_2 12), .inr (0, fsD r_2)), (q_5, .inr (0, [.int 0, .int 0, .int 0, .int 0, .int 0, .int 0, .int 0, .int 0, .int 0, .int 0, .ref q_6, .ref q_7, .ref q_8])), (q_10, .inr (0, [.int 0, .int 0, .int 0, .int 0, .int 0, .int 0, .int 0, .int 0, .int 0, .int 0, .ref q_11, .ref q_12, .ref q_13])), (q_25, .inr (4, [.null, .null, .int 0]))] H := hP
  have hD : va_D A [(h0, .inr (11, [.ref q_1, .ref q_5, .ref q_10, .ref q_15, .ref q_17, .ref q_19, .ref q_21, .ref q_23, .null, .null, .null, .int 0, .int 0, .int 0, .int 0, .int 0])), (q_1, .inr (6, fsR r_2)), ((r_2 11), .inr (10, fsT r_2)), ((r_2 13), .inl (k_3, 1600, .inl (fun _ => 0))), ((r_2 12), .inr (0, fsD r_2)), (q_5, .inr (0, [.int 0, .int 0, .int 0, .int 0, .int 0, .int 0, .int 0, .int 0, .int 0, .int 0, .ref q_6, .ref q_7, .ref q_8])), (q_10, .inr (0, [.int 0, .int 0, .int 0, .int 0, .int 0, .int 0, .int 0, .int 0, .int 0, .int 0, .ref q_11, .ref q_12, .ref q_13])), (q_25, .inr (4, [.null, .null, .int 0]))] := hD
  refine W.widen (k := 156) (n := 14838) (Nat.le_of_ble_eq_true rfl) (Nat.le_of_ble_eq_true rfl) ?_
  refine lv_dup hx hb dX11_init_96 rfl ?_
  have hPc := hP.sub (ws' := [(q_25, .inr (4, [.null, .null, .int 0]))]) [7] rfl
  have hDc := hD.sub (ws' := [(q_25, .inr (4, [.null, .null, .int 0]))]) [7] (by decide) rfl
  have hKc := hK.sub (tys' := []) [] rfl
  have hFc := va_free (wc := [(q_25, .inr (4, [.null, .null, .int 0]))]) hD hS hA [7] rfl
  refine va_callv (va_runIN (As := []) (rest := [.ref q_25, .ref h0]) ⟨hx, hb, hml, hown, hts⟩ (fX4_init l dC dI H.size q_25) (⟨va_cnB 0 hts (gz_gP mGA_151 goodGA) rfl rfl rfl (nzA_X11_59 hz) (hts _ (List.mem_cons_of_mem _ mGA_150)) (by decide +kernel) ⟨Nat.le_of_ble_eq_true rfl, Nat.le_of_ble_eq_true rfl⟩, rfl, (hts _ (List.mem_cons_of_mem _ mGA_152))⟩) ⟨fun a U g mk q => by obtain ⟨q0, q1, qP, qK, qD⟩ := q; exact ⟨q0, q1, qP, va_K.moved (u := U) (U := U.calling g mk a) (Vm.Alike.refl U.vm) qK, qD⟩, fun U hU hW => ⟨rfl, by rw [hU], by rw [hU]; exact hPc, va_K.moved hW.alike hKc, hDc.weaken (fun _ _ _ _ => trivial)⟩⟩ rfl rfl hl.1 rfl (lv_room (Nat.le_of_ble_eq_true rfl)) dX11_init_97 ⟨Nat.le_of_ble_eq_true rfl, Nat.le_of_ble_eq_true rfl⟩) hS (fun q _ h => hFc q h) hFc (fun  u t H1 locs ht hvm hw hB hz1 hk1 hS => ?_)
  obtain ⟨hP, hD⟩ := va_join (wr := [(h0, .inr (11, [.ref q_1, .ref q_5, .ref q_10, .ref q_15, .ref q_17, .ref q_19, .ref q_21, .ref q_23, .null, .null, .null, .int 0, .int 0, .int 0, .int 0, .int 0])), (q_1, .inr (6, fsR r_2)), ((r_2 11), .inr (10, fsT r_2)), ((r_2 13), .inl (k_3, 1600, .inl (fun _ => 0))), ((r_2 12), .inr (0, fsD r_2)), (q_5, .inr (0, [.int 0, .int 0, .int 0, .int 0, .int 0, .int 0, .int 0, .int 0, .int 0, .int 0, .ref q_6, .ref q_7, .ref q_8])), (q_10, .inr (0, [.int 0, .int 0, .int 0, .int 0, .int 0, .int 0, .int 0, .int 0, .int 0, .int 0, .ref q_11, .ref q_12, .ref q_13]))]) (w1 := []) hP hD [7] [0, 1, 2, 3, 4, 5, 6] rfl rfl (by decide) (by decide) hk1 hFc gz_P0 gz_D0
  generalize H1 = H at hP hS ⊢
  have hP : va_P (dC, dI) vwCl [(h0, .inr (11, [.ref q_1, .ref q_5, .ref q_10, .ref q_15, .ref q_17, .ref q_19, .ref q_21, .ref q_23, .null, .null, .null, .int 0, .int 0, .int 0, .int 0, .int 0])), (q_1, .inr (6, fsR r_2)), ((r_2 11), .inr (10, fsT r_2)), ((r_2 13), .inl (k_3, 1600, .inl (fun _ => 0))), ((r_2 12), .inr (0, fsD r_2)), (q_5, .inr (0, [.int 0, .int 0, .int 0, .int 0, .int 0, .int 0, .int 0, .int 0, .int 0, .int 0, .ref q_6, .ref q_7, .ref q_8])), (q_10, .inr (0, [.int 0, .int 0, .int 0, .int 0, .int 0, .int 0, .int 0, .int 0, .int 0, .int 0, .ref q_11, .ref q_12, .ref q_13]))] H := hP
  have hD : va_D A [(h0, .inr (11, [.ref q_1, .ref q_5, .ref q_10, .ref q_15, .ref q_17, .ref q_19, .ref q_21, .ref q_23, .null, .null, .null, .int 0, .int 0, .int 0, .int 0, .int 0])), (q_1, .inr (6, fsR r_2)), ((r_2 11), .inr (10, fsT r_2)), ((r_2 13), .inl (k_3, 1600, .inl (fun _ => 0))), ((r_2 12), .inr (0, fsD r_2)), (q_5, .inr (0, [.int 0, .int 0, .int 0, .int 0, .int 0, .int 0, .int 0, .int 0, .int 0, .int 0, .ref q_6, .ref q_7, .ref q_8])), (q_10, .inr (0, [.int 0, .int 0, .int 0, .int 0, .int 0, .int 0, .int 0, .int 0, .int 0, .int 0, .ref q_11, .ref q_12, .ref q_13]))] := hD
  refine W.widen (k := 158) (n := 15488) (Nat.le_of_ble_eq_true rfl) (Nat.le_of_ble_eq_true rfl) ?_
  refine va_putF (D := (dC, dI)) (ci := 11) (v := .ref q_25) (ty := .object "SightedMonths$History") (C := RX11) (T := TX11) (N := 16) hx hb hts (fun w h => List.mem_cons_of_mem _ (jnGA_X11 w h)) tyX11 tyX11_ok nmX11 hown hK hP hD hS 0 rfl rfl 8 (by decide) (hts _ (List.mem_cons_of_mem _ mGA_153)) (fun _ h9 => h9) rfl hin rfl (by decide +kernel) rfl rfl (Nat.le_of_ble_eq_true rfl) dX11_init_100 (fun H locs hP hD hS => ?_)
  have hP : va_P (dC, dI) vwCl [(h0, .inr (11, [.ref q_1, .ref q_5, .ref q_10, .ref q_15, .ref q_17, .ref q_19, .ref q_21, .ref q_23, .ref q_25, .null, .null, .int 0, .int 0, .int 0, .int 0, .int 0])), (q_1, .inr (6, fsR r_2)), ((r_2 11), .inr (10, fsT r_2)), ((r_2 13), .inl (k_3, 1600, .inl (fun _ => 0))), ((r_2 12), .inr (0, fsD r_2)), (q_5, .inr (0, [.int 0, .int 0, .int 0, .int 0, .int 0, .int 0, .int 0, .int 0, .int 0, .int 0, .ref q_6, .ref q_7, .ref q_8])), (q_10, .inr (0, [.int 0, .int 0, .int 0, .int 0, .int 0, .int 0, .int 0, .int 0, .int 0, .int 0, .ref q_11, .ref q_12, .ref q_13]))] H := hP
  have hD : va_D A [(h0, .inr (11, [.ref q_1, .ref q_5, .ref q_10, .ref q_15, .ref q_17, .ref q_19, .ref q_21, .ref q_23, .ref q_25, .null, .null, .int 0, .int 0, .int 0, .int 0, .int 0])), (q_1, .inr (6, fsR r_2)), ((r_2 11), .inr (10, fsT r_2)), ((r_2 13), .inl (k_3, 1600, .inl (fun _ => 0))), ((r_2 12), .inr (0, fsD r_2)), (q_5, .inr (0, [.int 0, .int 0, .int 0, .int 0, .int 0, .int 0, .int 0, .int 0, .int 0, .int 0, .ref q_6, .ref q_7, .ref q_8])), (q_10, .inr (0, [.int 0, .int 0, .int 0, .int 0, .int 0, .int 0, .int 0, .int 0, .int 0, .int 0, .ref q_11, .ref q_12, .ref q_13]))] := hD
  refine lv_aload_n hx hb dX11_init_103 rfl (lv_at hl 0 rfl) ?_
  refine lv_bipush (v := 25) hx hb dX11_init_104 (by decide) ?_
  refine va_newa (atype := .int) (ty := .int) (a0 := (25, .inl (fun _ => 0))) hx hb (hts _ (List.mem_cons_of_mem _ mGA_48)) rfl hK hP hD hS hA (fun _ => rfl) (by decide) (by decide) (Nat.le_of_ble_eq_true rfl) (Nat.le_of_ble_eq_true rfl) (Nat.le_of_ble_eq_true rfl) dX11_init_106 (fun q_27 k_28 H hK hP hD hS => ?_)
  have hP : va_P (dC, dI) vwCl [(h0, .inr (11, [.ref q_1, .ref q_5, .ref q_10, .ref q_15, .ref q_17, .ref q_19, .ref q_21, .ref q_23, .ref q_25, .null, .null, .int 0, .int 0, .int 0, .int 0, .int 0])), (q_1, .inr (6, fsR r_2)), ((r_2 11), .inr (10, fsT r_2)), ((r_2 13), .inl (k_3, 1600, .inl (fun _ => 0))), ((r_2 12), .inr (0, fsD r_2)), (q_5, .inr (0, [.int 0, .int 0, .int 0, .int 0, .int 0, .int 0, .int 0, .int 0, .int 0, .int 0, .ref q_6, .ref q_7, .ref q_8])), (q_10, .inr (0, [.int 0, .int 0, .int 0, .int 0, .int 0, .int 0, .int 0, .int 0, .int 0, .int 0, .ref q_11, .ref q_12, .ref q_13])), (q_27, .inl (k_28, 25, .inl (fun _ => 0)))] H := hP
  have hD : va_D A [(h0, .inr (11, [.ref q_1, .ref q_5, .ref q_10, .ref q_15, .ref q_17, .ref q_19, .ref q_21, .ref q_23, .ref q_25, .null, .null, .int 0, .int 0, .int 0, .int 0, .int 0])), (q_1, .inr (6, fsR r_2)), ((r_2 11), .inr (10, fsT r_2)), ((r_2 13), .inl (k_3, 1600, .inl (fun _ => 0))), ((r_2 12), .inr (0, fsD r_2)), (q_5, .inr (0, [.int 0, .int 0, .int 0, .int 0, .int 0, .int 0, .int 0, .int 0, .int 0, .int 0, .ref q_6, .ref q_7, .ref q_8])), (q_10, .inr (0, [.int 0, .int 0, .int 0, .int 0, .int 0, .int 0, .int 0, .int 0, .int 0, .int 0, .ref q_11, .ref q_12, .ref q_13])), (q_27, .inl (k_28, 25, .inl (fun _ => 0)))] := hD
  have hK : va_K (dC, dI) vwCl [(k_3, .byte), (k_28, .int)] s := hK
  refine W.widen (k := 159) (n := 15513) (Nat.le_of_ble_eq_true rfl) (Nat.le_of_ble_eq_true rfl) ?_
  refine va_putF (D := (dC, dI)) (ci := 11) (v := .ref q_27) (ty := .array .int) (C := RX11) (T := TX11) (N := 16) hx hb hts (fun w h => List.mem_cons_of_mem _ (jnGA_X11 w h)) tyX11 tyX11_ok nmX11 hown hK hP hD hS 0 rfl rfl 9 (by decide) (hts _ (List.mem_cons_of_mem _ mGA_154)) (fun _ h9 => h9) rfl hin rfl (by decide +kernel) rfl rfl (Nat.le_of_ble_eq_true rfl) dX11_init_108 (fun H locs hP hD hS => ?_)
  have hP : va_P (dC, dI) vwCl [(h0, .inr (11, [.ref q_1, .ref q_5, .ref q_10, .ref q_15, .ref q_17, .ref q_19, .ref q_21, .ref q_23, .ref q_25, .ref q_27, .null, .int 0, .int 0, .int 0, .int 0, .int 0])), (q_1, .inr (6, fsR r_2)), ((r_2 11), .inr (10, fsT r_2)), ((r_2 13), .inl (k_3, 1600, .inl (fun _ => 0))), ((r_2 12), .inr (0, fsD r_2)), (q_5, .inr (0, [.int 0, .int 0, .int 0, .int 0, .int 0, .int 0, .int 0, .int 0, .int 0, .int 0, .ref q_6, .ref q_7, .ref q_8])), (q_10, .inr (0, [.int 0, .int 0, .int 0, .int 0, .int 0, .int 0, .int 0, .int 0, .int 0, .int 0, .ref q_11, .ref q_12, .ref q_13])), (q_27, .inl (k_28, 25, .inl (fun _ => 0)))] H := hP
  have hD : va_D A [(h0, .inr (11, [.ref q_1, .ref q_5, .ref q_10, .ref q_15, .ref q_17, .ref q_19, .ref q_21, .ref q_23, .ref q_25, .ref q_27, .null, .int 0, .int 0, .int 0, .int 0, .int 0])), (q_1, .inr (6, fsR r_2)), ((r_2 11), .inr (10, fsT r_2)), ((r_2 13), .inl (k_3, 1600, .inl (fun _ => 0))), ((r_2 12), .inr (0, fsD r_2)), (q_5, .inr (0, [.int 0, .int 0, .int 0, .int 0, .int 0, .int 0, .int 0, .int 0, .int 0, .int 0, .ref q_6, .ref q_7, .ref q_8])), (q_10, .inr (0, [.int 0, .int 0, .int 0, .int 0, .int 0, .int 0, .int 0, .int 0, .int 0, .int 0, .ref q_11, .ref q_12, .ref q_13])), (q_27, .inl (k_28, 25, .inl (fun _ => 0)))] := hD
  refine lv_aload_n hx hb dX11_init_111 rfl (lv_at hl 0 rfl) ?_
  refine lv_bipush (v := 72) hx hb dX11_init_112 (by decide) ?_
  refine va_newa (atype := .byte) (ty := .byte) (a0 := (72, .inl (fun _ => 0))) hx hb (hts _ (List.mem_cons_of_mem _ mGA_77)) rfl hK hP hD hS hA (fun _ => rfl) (by decide) (by decide) (Nat.le_of_ble_eq_true rfl) (Nat.le_of_ble_eq_true rfl) (Nat.le_of_ble_eq_true rfl) dX11_init_114 (fun q_29 k_30 H hK hP hD hS => ?_)
  have hP : va_P (dC, dI) vwCl [(h0, .inr (11, [.ref q_1, .ref q_5, .ref q_10, .ref q_15, .ref q_17, .ref q_19, .ref q_21, .ref q_23, .ref q_25, .ref q_27, .null, .int 0, .int 0, .int 0, .int 0, .int 0])), (q_1, .inr (6, fsR r_2)), ((r_2 11), .inr (10, fsT r_2)), ((r_2 13), .inl (k_3, 1600, .inl (fun _ => 0))), ((r_2 12), .inr (0, fsD r_2)), (q_5, .inr (0, [.int 0, .int 0, .int 0, .int 0, .int 0, .int 0, .int 0, .int 0, .int 0, .int 0, .ref q_6, .ref q_7, .ref q_8])), (q_10, .inr (0, [.int 0, .int 0, .int 0, .int 0, .int 0, .int 0, .int 0, .int 0, .int 0, .int 0, .ref q_11, .ref q_12, .ref q_13])), (q_27, .inl (k_28, 25, .inl (fun _ => 0))), (q_29, .inl (k_30, 72, .inl (fun _ => 0)))] H := hP
  have hD : va_D A [(h0, .inr (11, [.ref q_1, .ref q_5, .ref q_10, .ref q_15, .ref q_17, .ref q_19, .ref q_21, .ref q_23, .ref q_25, .ref q_27, .null, .int 0, .int 0, .int 0, .int 0, .int 0])), (q_1, .inr (6, fsR r_2)), ((r_2 11), .inr (10, fsT r_2)), ((r_2 13), .inl (k_3, 1600, .inl (fun _ => 0))), ((r_2 12), .inr (0, fsD r_2)), (q_5, .inr (0, [.int 0, .int 0, .int 0, .int 0, .int 0, .int 0, .int 0, .int 0, .int 0, .int 0, .ref q_6, .ref q_7, .ref q_8])), (q_10, .inr (0, [.int 0, .int 0, .int 0, .int 0, .int 0, .int 0, .int 0, .int 0, .int 0, .int 0, .ref q_11, .ref q_12, .ref q_13])), (q_27, .inl (k_28, 25, .inl (fun _ => 0))), (q_29, .inl (k_30, 72, .inl (fun _ => 0)))] := hD
  have hK : va_K (dC, dI) vwCl [(k_3, .byte), (k_28, .int), (k_30, .byte)] s := hK
  refine W.widen (k := 160) (n := 15585) (Nat.le_of_ble_eq_true rfl) (Nat.le_of_ble_eq_true rfl) ?_
  refine va_putF (D := (dC, dI)) (ci := 11) (v := .ref q_29) (ty := .array .byte) (C := RX11) (T := TX11) (N := 16) hx hb hts (fun w h => List.mem_cons_of_mem _ (jnGA_X11 w h)) tyX11 tyX11_ok nmX11 hown hK hP hD hS 0 rfl rfl 10 (by decide) (hts _ (List.mem_cons_of_mem _ mGA_155)) (fun _ h9 => h9) rfl hin rfl (by decide +kernel) rfl rfl (Nat.le_of_ble_eq_true rfl) dX11_init_116 (fun H locs hP hD hS => ?_)
  have hP : va_P (dC, dI) vwCl [(h0, .inr (11, [.ref q_1, .ref q_5, .ref q_10, .ref q_15, .ref q_17, .ref q_19, .ref q_21, .ref q_23, .ref q_25, .ref q_27, .ref q_29, .int 0, .int 0, .int 0, .int 0, .int 0])), (q_1, .inr (6, fsR r_2)), ((r_2 11), .inr (10, fsT r_2)), ((r_2 13), .inl (k_3, 1600, .inl (fun _ => 0))), ((r_2 12), .inr (0, fsD r_2)), (q_5, .inr (0, [.int 0, .int 0, .int 0, .int 0, .int 0, .int 0, .int 0, .int 0, .int 0, .int 0, .ref q_6, .ref q_7, .ref q_8])), (q_10, .inr (0, [.int 0, .int 0, .int 0, .int 0, .int 0, .int 0, .int 0, .int 0, .int 0, .int 0, .ref q_11, .ref q_12, .ref q_13])), (q_27, .inl (k_28, 25, .inl (fun _ => 0))), (q_29, .inl (k_30, 72, .inl (fun _ => 0)))] H := hP
  have hD : va_D A [(h0, .inr (11, [.ref q_1, .ref q_5, .ref q_10, .ref q_15, .ref q_17, .ref q_19, .ref q_21, .ref q_23, .ref q_25, .ref q_27, .ref q_29, .int 0, .int 0, .int 0, .int 0, .int 0])), (q_1, .inr (6, fsR r_2)), ((r_2 11), .inr (10, fsT r_2)), ((r_2 13), .inl (k_3, 1600, .inl (fun _ => 0))), ((r_2 12), .inr (0, fsD r_2)), (q_5, .inr (0, [.int 0, .int 0, .int 0, .int 0, .int 0, .int 0, .int 0, .int 0, .int 0, .int 0, .ref q_6, .ref q_7, .ref q_8])), (q_10, .inr (0, [.int 0, .int 0, .int 0, .int 0, .int 0, .int 0, .int 0, .int 0, .int 0, .int 0, .ref q_11, .ref q_12, .ref q_13])), (q_27, .inl (k_28, 25, .inl (fun _ => 0))), (q_29, .inl (k_30, 72, .inl (fun _ => 0)))] := hD
  refine lv_aload_n hx hb dX11_init_119 rfl (lv_at hl 0 rfl) ?_
  refine lv_iconst (v := 0) hx hb dX11_init_120 (by decide) ?_
  refine va_put (D := (dC, dI)) (ci := 11) (v := .int 0) (ty := .int) (C := RX11) (T := TX11) (N := 16) hx hb hts (fun w h => List.mem_cons_of_mem _ (jnGA_X11 w h)) tyX11 tyX11_ok nmX11 hown hK hP hD hS 0 rfl rfl 11 (by decide) (hts _ (List.mem_cons_of_mem _ mGA_39)) (fun _ h9 => h9) rfl (by decide +kernel) rfl rfl (Nat.le_of_ble_eq_true rfl) dX11_init_121 (fun H locs hP hD hS => ?_)
  have hP : va_P (dC, dI) vwCl [(h0, .inr (11, [.ref q_1, .ref q_5, .ref q_10, .ref q_15, .ref q_17, .ref q_19, .ref q_21, .ref q_23, .ref q_25, .ref q_27, .ref q_29, .int 0, .int 0, .int 0, .int 0, .int 0])), (q_1, .inr (6, fsR r_2)), ((r_2 11), .inr (10, fsT r_2)), ((r_2 13), .inl (k_3, 1600, .inl (fun _ => 0))), ((r_2 12), .inr (0, fsD r_2)), (q_5, .inr (0, [.int 0, .int 0, .int 0, .int 0, .int 0, .int 0, .int 0, .int 0, .int 0, .int 0, .ref q_6, .ref q_7, .ref q_8])), (q_10, .inr (0, [.int 0, .int 0, .int 0, .int 0, .int 0, .int 0, .int 0, .int 0, .int 0, .int 0, .ref q_11, .ref q_12, .ref q_13])), (q_27, .inl (k_28, 25, .inl (fun _ => 0))), (q_29, .inl (k_30, 72, .inl (fun _ => 0)))] H := hP
  have hD : va_D A [(h0, .inr (11, [.ref q_1, .ref q_5, .ref q_10, .ref q_15, .ref q_17, .ref q_19, .ref q_21, .ref q_23, .ref q_25, .ref q_27, .ref q_29, .int 0, .int 0, .int 0, .int 0, .int 0])), (q_1, .inr (6, fsR r_2)), ((r_2 11), .inr (10, fsT r_2)), ((r_2 13), .inl (k_3, 1600, .inl (fun _ => 0))), ((r_2 12), .inr (0, fsD r_2)), (q_5, .inr (0, [.int 0, .int 0, .int 0, .int 0, .int 0, .int 0, .int 0, .int 0, .int 0, .int 0, .ref q_6, .ref q_7, .ref q_8])), (q_10, .inr (0, [.int 0, .int 0, .int 0, .int 0, .int 0, .int 0, .int 0, .int 0, .int 0, .int 0, .ref q_11, .ref q_12, .ref q_13])), (q_27, .inl (k_28, 25, .inl (fun _ => 0))), (q_29, .inl (k_30, 72, .inl (fun _ => 0)))] := hD
  refine lv_aload_n hx hb dX11_init_124 rfl (lv_at hl 0 rfl) ?_
  refine lv_iconst (v := 0) hx hb dX11_init_125 (by decide) ?_
  refine va_put (D := (dC, dI)) (ci := 11) (v := .int 0) (ty := .boolean) (C := RX11) (T := TX11) (N := 16) hx hb hts (fun w h => List.mem_cons_of_mem _ (jnGA_X11 w h)) tyX11 tyX11_ok nmX11 hown hK hP hD hS 0 rfl rfl 12 (by decide) (hts _ (List.mem_cons_of_mem _ mGA_156)) (fun _ h9 => h9) rfl (by decide +kernel) rfl rfl (Nat.le_of_ble_eq_true rfl) dX11_init_126 (fun H locs hP hD hS => ?_)
  have hP : va_P (dC, dI) vwCl [(h0, .inr (11, [.ref q_1, .ref q_5, .ref q_10, .ref q_15, .ref q_17, .ref q_19, .ref q_21, .ref q_23, .ref q_25, .ref q_27, .ref q_29, .int 0, .int 0, .int 0, .int 0, .int 0])), (q_1, .inr (6, fsR r_2)), ((r_2 11), .inr (10, fsT r_2)), ((r_2 13), .inl (k_3, 1600, .inl (fun _ => 0))), ((r_2 12), .inr (0, fsD r_2)), (q_5, .inr (0, [.int 0, .int 0, .int 0, .int 0, .int 0, .int 0, .int 0, .int 0, .int 0, .int 0, .ref q_6, .ref q_7, .ref q_8])), (q_10, .inr (0, [.int 0, .int 0, .int 0, .int 0, .int 0, .int 0, .int 0, .int 0, .int 0, .int 0, .ref q_11, .ref q_12, .ref q_13])), (q_27, .inl (k_28, 25, .inl (fun _ => 0))), (q_29, .inl (k_30, 72, .inl (fun _ => 0)))] H := hP
  have hD : va_D A [(h0, .inr (11, [.ref q_1, .ref q_5, .ref q_10, .ref q_15, .ref q_17, .ref q_19, .ref q_21, .ref q_23, .ref q_25, .ref q_27, .ref q_29, .int 0, .int 0, .int 0, .int 0, .int 0])), (q_1, .inr (6, fsR r_2)), ((r_2 11), .inr (10, fsT r_2)), ((r_2 13), .inl (k_3, 1600, .inl (fun _ => 0))), ((r_2 12), .inr (0, fsD r_2)), (q_5, .inr (0, [.int 0, .int 0, .int 0, .int 0, .int 0, .int 0, .int 0, .int 0, .int 0, .int 0, .ref q_6, .ref q_7, .ref q_8])), (q_10, .inr (0, [.int 0, .int 0, .int 0, .int 0, .int 0, .int 0, .int 0, .int 0, .int 0, .int 0, .ref q_11, .ref q_12, .ref q_13])), (q_27, .inl (k_28, 25, .inl (fun _ => 0))), (q_29, .inl (k_30, 72, .inl (fun _ => 0)))] := hD
  refine lv_aload_n hx hb dX11_init_129 rfl (lv_at hl 0 rfl) ?_
  refine lv_iconst (v := (-1)) hx hb dX11_init_130 (by decide) ?_
  refine va_put (D := (dC, dI)) (ci := 11) (v := .int (-1)) (ty := .int) (C := RX11) (T := TX11) (N := 16) hx hb hts (fun w h => List.mem_cons_of_mem _ (jnGA_X11 w h)) tyX11 tyX11_ok nmX11 hown hK hP hD hS 0 rfl rfl 13 (by decide) (hts _ (List.mem_cons_of_mem _ mGA_157)) (fun _ h9 => h9) rfl (by decide +kernel) rfl rfl (Nat.le_of_ble_eq_true rfl) dX11_init_131 (fun H locs hP hD hS => ?_)
  have hP : va_P (dC, dI) vwCl [(h0, .inr (11, [.ref q_1, .ref q_5, .ref q_10, .ref q_15, .ref q_17, .ref q_19, .ref q_21, .ref q_23, .ref q_25, .ref q_27, .ref q_29, .int 0, .int 0, .int (-1), .int 0, .int 0])), (q_1, .inr (6, fsR r_2)), ((r_2 11), .inr (10, fsT r_2)), ((r_2 13), .inl (k_3, 1600, .inl (fun _ => 0))), ((r_2 12), .inr (0, fsD r_2)), (q_5, .inr (0, [.int 0, .int 0, .int 0, .int 0, .int 0, .int 0, .int 0, .int 0, .int 0, .int 0, .ref q_6, .ref q_7, .ref q_8])), (q_10, .inr (0, [.int 0, .int 0, .int 0, .int 0, .int 0, .int 0, .int 0, .int 0, .int 0, .int 0, .ref q_11, .ref q_12, .ref q_13])), (q_27, .inl (k_28, 25, .inl (fun _ => 0))), (q_29, .inl (k_30, 72, .inl (fun _ => 0)))] H := hP
  have hD : va_D A [(h0, .inr (11, [.ref q_1, .ref q_5, .ref q_10, .ref q_15, .ref q_17, .ref q_19, .ref q_21, .ref q_23, .ref q_25, .ref q_27, .ref q_29, .int 0, .int 0, .int (-1), .int 0, .int 0])), (q_1, .inr (6, fsR r_2)), ((r_2 11), .inr (10, fsT r_2)), ((r_2 13), .inl (k_3, 1600, .inl (fun _ => 0))), ((r_2 12), .inr (0, fsD r_2)), (q_5, .inr (0, [.int 0, .int 0, .int 0, .int 0, .int 0, .int 0, .int 0, .int 0, .int 0, .int 0, .ref q_6, .ref q_7, .ref q_8])), (q_10, .inr (0, [.int 0, .int 0, .int 0, .int 0, .int 0, .int 0, .int 0, .int 0, .int 0, .int 0, .ref q_11, .ref q_12, .ref q_13])), (q_27, .inl (k_28, 25, .inl (fun _ => 0))), (q_29, .inl (k_30, 72, .inl (fun _ => 0)))] := hD
  refine lv_aload_n hx hb dX11_init_134 rfl (lv_at hl 0 rfl) ?_
  refine lv_iconst (v := 0) hx hb dX11_init_135 (by decide) ?_
  refine va_put (D := (dC, dI)) (ci := 11) (v := .int 0) (ty := .boolean) (C := RX11) (T := TX11) (N := 16) hx hb hts (fun w h => List.mem_cons_of_mem _ (jnGA_X11 w h)) tyX11 tyX11_ok nmX11 hown hK hP hD hS 0 rfl rfl 14 (by decide) (hts _ (List.mem_cons_of_mem _ mGA_158)) (fun _ h9 => h9) rfl (by decide +kernel) rfl rfl (Nat.le_of_ble_eq_true rfl) dX11_init_136 (fun H locs hP hD hS => ?_)
  have hP : va_P (dC, dI) vwCl [(h0, .inr (11, [.ref q_1, .ref q_5, .ref q_10, .ref q_15, .ref q_17, .ref q_19, .ref q_21, .ref q_23, .ref q_25, .ref q_27, .ref q_29, .int 0, .int 0, .int (-1), .int 0, .int 0])), (q_1, .inr (6, fsR r_2)), ((r_2 11), .inr (10, fsT r_2)), ((r_2 13), .inl (k_3, 1600, .inl (fun _ => 0))), ((r_2 12), .inr (0, fsD r_2)), (q_5, .inr (0, [.int 0, .int 0, .int 0, .int 0, .int 0, .int 0, .int 0, .int 0, .int 0, .int 0, .ref q_6, .ref q_7, .ref q_8])), (q_10, .inr (0, [.int 0, .int 0, .int 0, .int 0, .int 0, .int 0, .int 0, .int 0, .int 0, .int 0, .ref q_11, .ref q_12, .ref q_13])), (q_27, .inl (k_28, 25, .inl (fun _ => 0))), (q_29, .inl (k_30, 72, .inl (fun _ => 0)))] H := hP
  have hD : va_D A [(h0, .inr (11, [.ref q_1, .ref q_5, .ref q_10, .ref q_15, .ref q_17, .ref q_19, .ref q_21, .ref q_23, .ref q_25, .ref q_27, .ref q_29, .int 0, .int 0, .int (-1), .int 0, .int 0])), (q_1, .inr (6, fsR r_2)), ((r_2 11), .inr (10, fsT r_2)), ((r_2 13), .inl (k_3, 1600, .inl (fun _ => 0))), ((r_2 12), .inr (0, fsD r_2)), (q_5, .inr (0, [.int 0, .int 0, .int 0, .int 0, .int 0, .int 0, .int 0, .int 0, .int 0, .int 0, .ref q_6, .ref q_7, .ref q_8])), (q_10, .inr (0, [.int 0, .int 0, .int 0, .int 0, .int 0, .int 0, .int 0, .int 0, .int 0, .int 0, .ref q_11, .ref q_12, .ref q_13])), (q_27, .inl (k_28, 25, .inl (fun _ => 0))), (q_29, .inl (k_30, 72, .inl (fun _ => 0)))] := hD
  refine lv_aload_n hx hb dX11_init_139 rfl (lv_at hl 0 rfl) ?_
  refine lv_iconst (v := 0) hx hb dX11_init_140 (by decide) ?_
  refine va_put (D := (dC, dI)) (ci := 11) (v := .int 0) (ty := .boolean) (C := RX11) (T := TX11) (N := 16) hx hb hts (fun w h => List.mem_cons_of_mem _ (jnGA_X11 w h)) tyX11 tyX11_ok nmX11 hown hK hP hD hS 0 rfl rfl 15 (by decide) (hts _ (List.mem_cons_of_mem _ mGA_159)) (fun _ h9 => h9) rfl (by decide +kernel) rfl rfl (Nat.le_of_ble_eq_true rfl) dX11_init_141 (fun H locs hP hD hS => ?_)
  have hP : va_P (dC, dI) vwCl [(h0, .inr (11, [.ref q_1, .ref q_5, .ref q_10, .ref q_15, .ref q_17, .ref q_19, .ref q_21, .ref q_23, .ref q_25, .ref q_27, .ref q_29, .int 0, .int 0, .int (-1), .int 0, .int 0])), (q_1, .inr (6, fsR r_2)), ((r_2 11), .inr (10, fsT r_2)), ((r_2 13), .inl (k_3, 1600, .inl (fun _ => 0))), ((r_2 12), .inr (0, fsD r_2)), (q_5, .inr (0, [.int 0, .int 0, .int 0, .int 0, .int 0, .int 0, .int 0, .int 0, .int 0, .int 0, .ref q_6, .ref q_7, .ref q_8])), (q_10, .inr (0, [.int 0, .int 0, .int 0, .int 0, .int 0, .int 0, .int 0, .int 0, .int 0, .int 0, .ref q_11, .ref q_12, .ref q_13])), (q_27, .inl (k_28, 25, .inl (fun _ => 0))), (q_29, .inl (k_30, 72, .inl (fun _ => 0)))] H := hP
  have hD : va_D A [(h0, .inr (11, [.ref q_1, .ref q_5, .ref q_10, .ref q_15, .ref q_17, .ref q_19, .ref q_21, .ref q_23, .ref q_25, .ref q_27, .ref q_29, .int 0, .int 0, .int (-1), .int 0, .int 0])), (q_1, .inr (6, fsR r_2)), ((r_2 11), .inr (10, fsT r_2)), ((r_2 13), .inl (k_3, 1600, .inl (fun _ => 0))), ((r_2 12), .inr (0, fsD r_2)), (q_5, .inr (0, [.int 0, .int 0, .int 0, .int 0, .int 0, .int 0, .int 0, .int 0, .int 0, .int 0, .ref q_6, .ref q_7, .ref q_8])), (q_10, .inr (0, [.int 0, .int 0, .int 0, .int 0, .int 0, .int 0, .int 0, .int 0, .int 0, .int 0, .ref q_11, .ref q_12, .ref q_13])), (q_27, .inl (k_28, 25, .inl (fun _ => 0))), (q_29, .inl (k_30, 72, .inl (fun _ => 0)))] := hD
  have hP9 := hP.sub (ws' := [(h0, .inr (11, [.ref q_1, .ref q_5, .ref q_10, .ref q_15, .ref q_17, .ref q_19, .ref q_21, .ref q_23, .ref q_25, .ref q_27, .ref q_29, .int 0, .int 0, .int (-1), .int 0, .int 0])), (q_1, .inr (6, fsR r_2)), ((r_2 11), .inr (10, fsT r_2)), ((r_2 13), .inl (k_3, 1600, .inl (fun _ => 0))), ((r_2 12), .inr (0, fsD r_2)), (q_5, .inr (0, [.int 0, .int 0, .int 0, .int 0, .int 0, .int 0, .int 0, .int 0, .int 0, .int 0, .ref q_6, .ref q_7, .ref q_8]))]) [0, 1, 2, 3, 4, 5] rfl
  have hD9 := hD.sub (ws' := [(h0, .inr (11, [.ref q_1, .ref q_5, .ref q_10, .ref q_15, .ref q_17, .ref q_19, .ref q_21, .ref q_23, .ref q_25, .ref q_27, .ref q_29, .int 0, .int 0, .int (-1), .int 0, .int 0])), (q_1, .inr (6, fsR r_2)), ((r_2 11), .inr (10, fsT r_2)), ((r_2 13), .inl (k_3, 1600, .inl (fun _ => 0))), ((r_2 12), .inr (0, fsD r_2)), (q_5, .inr (0, [.int 0, .int 0, .int 0, .int 0, .int 0, .int 0, .int 0, .int 0, .int 0, .int 0, .ref q_6, .ref q_7, .ref q_8]))]) [0, 1, 2, 3, 4, 5] (by decide) rfl
  have hK9 := hK.sub (tys' := [(k_3, .byte)]) [0] rfl
  exact W.vret hx hb hr (fun t ht hW => ⟨⟨(), rfl, trivial, (fun n => [q_1, q_5, q_10, q_15, q_17, q_19, q_21, q_23, q_25, q_27, q_29, (r_2 11), (r_2 12), (r_2 13), q_6, q_7, q_8, (r_2 17), (r_2 18), (r_2 19)].getD n 0), k_3, by rw [ht]; exact hP9, va_K.moved hW.alike hK9, hD9⟩, hS.F ht⟩) hS.2.2 dX11_init_144
end
section
theorem dX10_put_0 : decode cX10_put 0 = .ok (.aload_n 0, 1) := by decide +kernel
theorem dX10_put_1 : decode cX10_put 1 = .ok (.getfield 15, 3) := by decide +kernel
theorem dX10_put_4 : decode cX10_put 4 = .ok (.sipush 1596, 3) := by decide +kernel
theorem dX10_put_7 : decode cX10_put 7 = .ok (.if_icmp .le 4, 3) := by decide +kernel
theorem dX10_put_11 : decode cX10_put 11 = .ok (.aload_n 0, 1) := by decide +kernel
theorem dX10_put_12 : decode cX10_put 12 = .ok (.getfield 9, 3) := by decide +kernel
theorem dX10_put_15 : decode cX10_put 15 = .ok (.aload_n 0, 1) := by decide +kernel
theorem dX10_put_16 : decode cX10_put 16 = .ok (.getfield 15, 3) := by decide +kernel
theorem dX10_put_19 : decode cX10_put 19 = .ok (.iload_n 1, 1) := by decide +kernel
theorem dX10_put_20 : decode cX10_put 20 = .ok (.bipush 24, 2) := by decide +kernel
theorem dX10_put_22 : decode cX10_put 22 = .ok (.iushr, 1) := by decide +kernel
theorem dX10_put_23 : decode cX10_put 23 = .ok (.i2b, 1) := by decide +kernel
theorem dX10_put_24 : decode cX10_put 24 = .ok (.bastore, 1) := by decide +kernel
theorem dX10_put_25 : decode cX10_put 25 = .ok (.aload_n 0, 1) := by decide +kernel
theorem dX10_put_26 : decode cX10_put 26 = .ok (.getfield 9, 3) := by decide +kernel
theorem dX10_put_29 : decode cX10_put 29 = .ok (.aload_n 0, 1) := by decide +kernel
theorem dX10_put_30 : decode cX10_put 30 = .ok (.getfield 15, 3) := by decide +kernel
theorem dX10_put_33 : decode cX10_put 33 = .ok (.iconst 1, 1) := by decide +kernel
theorem dX10_put_34 : decode cX10_put 34 = .ok (.iadd, 1) := by decide +kernel
theorem dX10_put_35 : decode cX10_put 35 = .ok (.iload_n 1, 1) := by decide +kernel
theorem dX10_put_36 : decode cX10_put 36 = .ok (.bipush 16, 2) := by decide +kernel
theorem dX10_put_38 : decode cX10_put 38 = .ok (.iushr, 1) := by decide +kernel
theorem dX10_put_39 : decode cX10_put 39 = .ok (.i2b, 1) := by decide +kernel
theorem dX10_put_40 : decode cX10_put 40 = .ok (.bastore, 1) := by decide +kernel
theorem dX10_put_41 : decode cX10_put 41 = .ok (.aload_n 0, 1) := by decide +kernel
theorem dX10_put_42 : decode cX10_put 42 = .ok (.getfield 9, 3) := by decide +kernel
theorem dX10_put_45 : decode cX10_put 45 = .ok (.aload_n 0, 1) := by decide +kernel
theorem dX10_put_46 : decode cX10_put 46 = .ok (.getfield 15, 3) := by decide +kernel
theorem dX10_put_49 : decode cX10_put 49 = .ok (.iconst 2, 1) := by decide +kernel
theorem dX10_put_50 : decode cX10_put 50 = .ok (.iadd, 1) := by decide +kernel
theorem dX10_put_51 : decode cX10_put 51 = .ok (.iload_n 1, 1) := by decide +kernel
theorem dX10_put_52 : decode cX10_put 52 = .ok (.bipush 8, 2) := by decide +kernel
theorem dX10_put_54 : decode cX10_put 54 = .ok (.iushr, 1) := by decide +kernel
theorem dX10_put_55 : decode cX10_put 55 = .ok (.i2b, 1) := by decide +kernel
theorem dX10_put_56 : decode cX10_put 56 = .ok (.bastore, 1) := by decide +kernel
theorem dX10_put_57 : decode cX10_put 57 = .ok (.aload_n 0, 1) := by decide +kernel
theorem dX10_put_58 : decode cX10_put 58 = .ok (.getfield 9, 3) := by decide +kernel
theorem dX10_put_61 : decode cX10_put 61 = .ok (.aload_n 0, 1) := by decide +kernel
theorem dX10_put_62 : decode cX10_put 62 = .ok (.getfield 15, 3) := by decide +kernel
theorem dX10_put_65 : decode cX10_put 65 = .ok (.iconst 3, 1) := by decide +kernel
theorem dX10_put_66 : decode cX10_put 66 = .ok (.iadd, 1) := by decide +kernel
theorem dX10_put_67 : decode cX10_put 67 = .ok (.iload_n 1, 1) := by decide +kernel
theorem dX10_put_68 : decode cX10_put 68 = .ok (.i2b, 1) := by decide +kernel
theorem dX10_put_69 : decode cX10_put 69 = .ok (.bastore, 1) := by decide +kernel
theorem dX10_put_70 : decode cX10_put 70 = .ok (.aload_n 0, 1) := by decide +kernel
theorem dX10_put_71 : decode cX10_put 71 = .ok (.dup, 1) := by decide +kernel
theorem dX10_put_72 : decode cX10_put 72 = .ok (.getfield 15, 3) := by decide +kernel
theorem dX10_put_75 : decode cX10_put 75 = .ok (.iconst 4, 1) := by decide +kernel
theorem dX10_put_76 : decode cX10_put 76 = .ok (.iadd, 1) := by decide +kernel
theorem dX10_put_77 : decode cX10_put 77 = .ok (.putfield 15, 3) := by decide +kernel
theorem dX10_put_80 : decode cX10_put 80 = .ok (.return_, 1) := by decide +kernel
set_option maxHeartbeats 4000000 in
set_option maxRecDepth 100000 in
theorem fX10_put (l : Launch) (dC : Nat → ClassId) (dI : Nat → Nat → Nat) (sz : Nat) (h0 : Nat) (b : Nat) (k1 : ClassId) (n : Nat) (f : Nat → Int32) (p0 : Int32) (hn : n + 4 ≤ 1600) : Met l yX10_put (.code yX10_put cX10_put 2 none :: wsGA) ({ frames := 0, cells := 0, slots := 0, locals := 0 }) (va_Pc [.ref h0, .int p0] (fun U => U.heap.size = sz ∧ va_P (dC, dI) vwCl [(h0, .inr (10, [.ref b, .int (nI n)])), (b, .inl (k1, 1600, .inl f))] U.heap ∧ va_K (dC, dI) vwCl [(k1, .byte)] U ∧ va_D (fun _ => True) [(h0, .inr (10, [.ref b, .int (nI n)])), (b, .inl (k1, 1600, .inl f))])) (va_Qv (fun (u : Unit) => True) (fun _ t => ∃ (g : Nat → Int32), va_P (dC, dI) vwCl [(h0, .inr (10, [.ref b, .int (nI (n + 4))])), (b, .inl (k1, 1600, .inl g))] t.heap ∧ va_K (dC, dI) vwCl [(k1, .byte)] t ∧ va_D (va_A [(h0, .inr (10, [.ref b, .int (nI n)])), (b, .inl (k1, 1600, .inl f))] sz) [(h0, .inr (10, [.ref b, .int (nI (n + 4))])), (b, .inl (k1, 1600, .inl g))]) (va_A [(h0, .inr (10, [.ref b, .int (nI n)])), (b, .inl (k1, 1600, .inl f))] sz)) 0 0 (va_A [(h0, .inr (10, [.ref b, .int (nI n)])), (b, .inl (k1, 1600, .inl f))] sz) := by
  refine Met.ofW (cc := cX10_put) (maxL := 2) (ret := none) (by decide) rfl ?_
  intro p e s m args below meth c s₁ B hml hv
  obtain ⟨rfl, hsz, hP, hK, hD0⟩ := hv
  have hx := B.exec
  have hb := B.bytes
  have hr := B.returns
  have hts := atoms_spec (ws := (.code yX10_put cX10_put 2 none :: wsGA)) B.pre
  have hown : s.vm.findClass RX10 = some m.cls := findClass_of_methodNamed B.named
  have hlocks := B.notSynchronized
  subst hsz
  have hD := hD0.self (sz := s.heap.size)
  generalize hAe : va_A [(h0, .inr (10, [.ref b, .int (nI n)])), (b, .inl (k1, 1600, .inl f))] s.heap.size = A at hD ⊢
  have hA : ∀ q : Nat, s.heap.size ≤ q → A q := fun q h => by rw [← hAe]; exact Or.inr h
  have hS : va_S A s.heap s.heap [] := va_S.rf
  have hl := lv_entry ([.ref h0, .int p0]) (n := 2) (Nat.le_of_ble_eq_true rfl)
  rw [lg_entry_eq]
  generalize (lg_sl ([.ref h0, .int p0]) ++ List.replicate (2 - (lg_sl ([.ref h0, .int p0])).length) Slot.unset).toArray = ls at hl ⊢
  have hl : lv_has ls 2 [(0, .ref h0), (1, .int p0)] := hl
  refine lv_aload_n hx hb dX10_put_0 rfl (lv_at hl 0 rfl) ?_
  refine va_get (D := (dC, dI)) (ci := 10) (v := .int (nI n)) (C := RX10) (T := TX10) (N := 2) hx hb hts (fun w h => List.mem_cons_of_mem _ (jnGA_X10 w h)) hown hK hP 0 rfl rfl 1 (by decide) (hts _ (List.mem_cons_of_mem _ mGA_79)) (fun _ h9 => h9) rfl dX10_put_1 ?_
  refine lv_sipush (v := 1596) hx hb dX10_put_4 (by decide) ?_
  refine lv_icmp_le (tgt := 11) hx hb dX10_put_7 (by decide) (fun c_1 => ?_) (fun c_1 => absurd (nI_le (b := 1596) (by omega) (by decide)) c_1)
  refine lv_aload_n hx hb dX10_put_11 rfl (lv_at hl 0 rfl) ?_
  refine va_get (D := (dC, dI)) (ci := 10) (v := .ref b) (C := RX10) (T := TX10) (N := 2) hx hb hts (fun w h => List.mem_cons_of_mem _ (jnGA_X10 w h)) hown hK hP 0 rfl rfl 0 (by decide) (hts _ (List.mem_cons_of_mem _ mGA_78)) (fun _ h9 => h9) rfl dX10_put_12 ?_
  refine lv_aload_n hx hb dX10_put_15 rfl (lv_at hl 0 rfl) ?_
  refine va_get (D := (dC, dI)) (ci := 10) (v := .int (nI n)) (C := RX10) (T := TX10) (N := 2) hx hb hts (fun w h => List.mem_cons_of_mem _ (jnGA_X10 w h)) hown hK hP 0 rfl rfl 1 (by decide) (hts _ (List.mem_cons_of_mem _ mGA_79)) (fun _ h9 => h9) rfl dX10_put_16 ?_
  refine lv_iload_n hx hb dX10_put_19 rfl (lv_at hl 1 rfl) ?_
  refine lv_bipush (v := 24) hx hb dX10_put_20 (by decide) ?_
  refine lv_iushr hx hb dX10_put_22 rfl ?_
  refine lv_topi (fun x_2 ex_2 => ?_)
  refine lv_i2b hx hb dX10_put_23 rfl ?_
  refine lv_topi (fun x_3 ex_3 => ?_)
  refine va_bast hx hb hK hP hD hS 1 0 rfl rfl (vp_in_nI (show n < 1600 by omega) (by decide)) dX10_put_24 (fun H locs hP hD hS => ?_)
  have hP : va_P (dC, dI) vwCl [(h0, .inr (10, [.ref b, .int (nI n)])), (b, .inl (k1, 1600, .inl (upd f (nI n : Int32).toNatClampNeg (vp_nar .byte x_3))))] H := hP
  have hD : va_D A [(h0, .inr (10, [.ref b, .int (nI n)])), (b, .inl (k1, 1600, .inl (upd f (nI n : Int32).toNatClampNeg (vp_nar .byte x_3))))] := hD
  generalize upd f (nI n : Int32).toNatClampNeg (vp_nar .byte x_3) = f_4 at hP hD
  refine lv_aload_n hx hb dX10_put_25 rfl (lv_at hl 0 rfl) ?_
  refine va_get (D := (dC, dI)) (ci := 10) (v := .ref b) (C := RX10) (T := TX10) (N := 2) hx hb hts (fun w h => List.mem_cons_of_mem _ (jnGA_X10 w h)) hown hK hP 0 rfl rfl 0 (by decide) (hts _ (List.mem_cons_of_mem _ mGA_78)) (fun _ h9 => h9) rfl dX10_put_26 ?_
  refine lv_aload_n hx hb dX10_put_29 rfl (lv_at hl 0 rfl) ?_
  refine va_get (D := (dC, dI)) (ci := 10) (v := .int (nI n)) (C := RX10) (T := TX10) (N := 2) hx hb hts (fun w h => List.mem_cons_of_mem _ (jnGA_X10 w h)) hown hK hP 0 rfl rfl 1 (by decide) (hts _ (List.mem_cons_of_mem _ mGA_79)) (fun _ h9 => h9) rfl dX10_put_30 ?_
  refine lv_iconst (v := 1) hx hb dX10_put_33 (by decide) ?_
  refine lv_iadd hx hb dX10_put_34 ?_
  refine gz_topi (y := nI (n + 1)) (nI_add n 1) ?_
  refine lv_iload_n hx hb dX10_put_35 rfl (lv_at hl 1 rfl) ?_
  refine lv_bipush (v := 16) hx hb dX10_put_36 (by decide) ?_
  refine lv_iushr hx hb dX10_put_38 rfl ?_
  refine lv_topi (fun x_5 ex_5 => ?_)
  refine lv_i2b hx hb dX10_put_39 rfl ?_
  refine lv_topi (fun x_6 ex_6 => ?_)
  refine va_bast hx hb hK hP hD hS 1 0 rfl rfl (vp_in_nI (show n + 1 < 1600 by omega) (by decide)) dX10_put_40 (fun H locs hP hD hS => ?_)
  have hP : va_P (dC, dI) vwCl [(h0, .inr (10, [.ref b, .int (nI n)])), (b, .inl (k1, 1600, .inl (upd f_4 (nI (n + 1) : Int32).toNatClampNeg (vp_nar .byte x_6))))] H := hP
  have hD : va_D A [(h0, .inr (10, [.ref b, .int (nI n)])), (b, .inl (k1, 1600, .inl (upd f_4 (nI (n + 1) : Int32).toNatClampNeg (vp_nar .byte x_6))))] := hD
  generalize upd f_4 (nI (n + 1) : Int32).toNatClampNeg (vp_nar .byte x_6) = f_7 at hP hD
  refine lv_aload_n hx hb dX10_put_41 rfl (lv_at hl 0 rfl) ?_
  refine va_get (D := (dC, dI)) (ci := 10) (v := .ref b) (C := RX10) (T := TX10) (N := 2) hx hb hts (fun w h => List.mem_cons_of_mem _ (jnGA_X10 w h)) hown hK hP 0 rfl rfl 0 (by decide) (hts _ (List.mem_cons_of_mem _ mGA_78)) (fun _ h9 => h9) rfl dX10_put_42 ?_
  refine lv_aload_n hx hb dX10_put_45 rfl (lv_at hl 0 rfl) ?_
  refine va_get (D := (dC, dI)) (ci := 10) (v := .int (nI n)) (C := RX10) (T := TX10) (N := 2) hx hb hts (fun w h => List.mem_cons_of_mem _ (jnGA_X10 w h)) hown hK hP 0 rfl rfl 1 (by decide) (hts _ (List.mem_cons_of_mem _ mGA_79)) (fun _ h9 => h9) rfl dX10_put_46 ?_
  refine lv_iconst (v := 2) hx hb dX10_put_49 (by decide) ?_
  refine lv_iadd hx hb dX10_put_50 ?_
  refine gz_topi (y := nI (n + 2)) (nI_add n 2) ?_
  refine lv_iload_n hx hb dX10_put_51 rfl (lv_at hl 1 rfl) ?_
  refine lv_bipush (v := 8) hx hb dX10_put_52 (by decide) ?_
  refine lv_iushr hx hb dX10_put_54 rfl ?_
  refine lv_topi (fun x_8 ex_8 => ?_)
  refine lv_i2b hx hb dX10_put_55 rfl ?_
  refine lv_topi (fun x_9 ex_9 => ?_)
  refine va_bast hx hb hK hP hD hS 1 0 rfl rfl (vp_in_nI (show n + 2 < 1600 by omega) (by decide)) dX10_put_56 (fun H locs hP hD hS => ?_)
  have hP : va_P (dC, dI) vwCl [(h0, .inr (10, [.ref b, .int (nI n)])), (b, .inl (k1, 1600, .inl (upd f_7 (nI (n + 2) : Int32).toNatClampNeg (vp_nar .byte x_9))))] H := hP
  have hD : va_D A [(h0, .inr (10, [.ref b, .int (nI n)])), (b, .inl (k1, 1600, .inl (upd f_7 (nI (n + 2) : Int32).toNatClampNeg (vp_nar .byte x_9))))] := hD
  generalize upd f_7 (nI (n + 2) : Int32).toNatClampNeg (vp_nar .byte x_9) = f_10 at hP hD
  refine lv_aload_n hx hb dX10_put_57 rfl (lv_at hl 0 rfl) ?_
  refine va_get (D := (dC, dI)) (ci := 10) (v := .ref b) (C := RX10) (T := TX10) (N := 2) hx hb hts (fun w h => List.mem_cons_of_mem _ (jnGA_X10 w h)) hown hK hP 0 rfl rfl 0 (by decide) (hts _ (List.mem_cons_of_mem _ mGA_78)) (fun _ h9 => h9) rfl dX10_put_58 ?_
  refine lv_aload_n hx hb dX10_put_61 rfl (lv_at hl 0 rfl) ?_
  refine va_get (D := (dC, dI)) (ci := 10) (v := .int (nI n)) (C := RX10) (T := TX10) (N := 2) hx hb hts (fun w h => List.mem_cons_of_mem _ (jnGA_X10 w h)) hown hK hP 0 rfl rfl 1 (by decide) (hts _ (List.mem_cons_of_mem _ mGA_79)) (fun _ h9 => h9) rfl dX10_put_62 ?_
  refine lv_iconst (v := 3) hx hb dX10_put_65 (by decide) ?_
  refine lv_iadd hx hb dX10_put_66 ?_
  refine gz_topi (y := nI (n + 3)) (nI_add n 3) ?_
  refine lv_iload_n hx hb dX10_put_67 rfl (lv_at hl 1 rfl) ?_
  refine lv_i2b hx hb dX10_put_68 rfl ?_
  refine lv_topi (fun x_11 ex_11 => ?_)
  refine va_bast hx hb hK hP hD hS 1 0 rfl rfl (vp_in_nI (show n + 3 < 1600 by omega) (by decide)) dX10_put_69 (fun H locs hP hD hS => ?_)
  have hP : va_P (dC, dI) vwCl [(h0, .inr (10, [.ref b, .int (nI n)])), (b, .inl (k1, 1600, .inl (upd f_10 (nI (n + 3) : Int32).toNatClampNeg (vp_nar .byte x_11))))] H := hP
  have hD : va_D A [(h0, .inr (10, [.ref b, .int (nI n)])), (b, .inl (k1, 1600, .inl (upd f_10 (nI (n + 3) : Int32).toNatClampNeg (vp_nar .byte x_11))))] := hD
  generalize upd f_10 (nI (n + 3) : Int32).toNatClampNeg (vp_nar .byte x_11) = f_12 at hP hD
  refine lv_aload_n hx hb dX10_put_70 rfl (lv_at hl 0 rfl) ?_
  refine lv_dup hx hb dX10_put_71 rfl ?_
  refine va_get (D := (dC, dI)) (ci := 10) (v := .int (nI n)) (C := RX10) (T := TX10) (N := 2) hx hb hts (fun w h => List.mem_cons_of_mem _ (jnGA_X10 w h)) hown hK hP 0 rfl rfl 1 (by decide) (hts _ (List.mem_cons_of_mem _ mGA_79)) (fun _ h9 => h9) rfl dX10_put_72 ?_
  refine lv_iconst (v := 4) hx hb dX10_put_75 (by decide) ?_
  refine lv_iadd hx hb dX10_put_76 ?_
  refine gz_topi (y := nI (n + 4)) (nI_add n 4) ?_
  refine va_put (D := (dC, dI)) (ci := 10) (v := .int (nI (n + 4))) (ty := .int) (C := RX10) (T := TX10) (N := 2) hx hb hts (fun w h => List.mem_cons_of_mem _ (jnGA_X10 w h)) tyX10 tyX10_ok nmX10 hown hK hP hD hS 0 rfl rfl 1 (by decide) (hts _ (List.mem_cons_of_mem _ mGA_79)) (fun _ h9 => h9) rfl (by decide +kernel) rfl rfl (Nat.le_of_ble_eq_true rfl) dX10_put_77 (fun H locs hP hD hS => ?_)
  have hP : va_P (dC, dI) vwCl [(h0, .inr (10, [.ref b, .int (nI (n + 4))])), (b, .inl (k1, 1600, .inl f_12))] H := hP
  have hD : va_D A [(h0, .inr (10, [.ref b, .int (nI (n + 4))])), (b, .inl (k1, 1600, .inl f_12))] := hD
  have hP9 := hP.sub (ws' := [(h0, .inr (10, [.ref b, .int (nI (n + 4))])), (b, .inl (k1, 1600, .inl f_12))]) [0, 1] rfl
  have hD9 := hD.sub (ws' := [(h0, .inr (10, [.ref b, .int (nI (n + 4))])), (b, .inl (k1, 1600, .inl f_12))]) [0, 1] (by decide) rfl
  have hK9 := hK.sub (tys' := [(k1, .byte)]) [0] rfl
  exact W.vret hx hb hr (fun t ht hW => ⟨⟨(), rfl, trivial, f_12, by rw [ht]; exact hP9, va_K.moved hW.alike hK9, hD9⟩, hS.F ht⟩) hS.2.2 dX10_put_80
theorem dX11_feed_0 : decode cX11_feed 0 = .ok (.aload_n 0, 1) := by decide +kernel
theorem dX11_feed_1 : decode cX11_feed 1 = .ok (.getfield 12, 3) := by decide +kernel
theorem dX11_feed_4 : decode cX11_feed 4 = .ok (.getfield 89, 3) := by decide +kernel
theorem dX11_feed_7 : decode cX11_feed 7 = .ok (.astore 6, 2) := by decide +kernel
theorem dX11_feed_9 : decode cX11_feed 9 = .ok (.aload 6, 2) := by decide +kernel
theorem dX11_feed_11 : decode cX11_feed 11 = .ok (.getfield 93, 3) := by decide +kernel
theorem dX11_feed_14 : decode cX11_feed 14 = .ok (.sipush 1580, 3) := by decide +kernel
theorem dX11_feed_17 : decode cX11_feed 17 = .ok (.if_icmp .le 5, 3) := by decide +kernel
theorem dX11_feed_22 : decode cX11_feed 22 = .ok (.aload 6, 2) := by decide +kernel
theorem dX11_feed_24 : decode cX11_feed 24 = .ok (.iload_n 1, 1) := by decide +kernel
theorem dX11_feed_25 : decode cX11_feed 25 = .ok (.invokevirtual 98, 3) := by decide +kernel
theorem dX11_feed_28 : decode cX11_feed 28 = .ok (.aload 6, 2) := by decide +kernel
theorem dX11_feed_30 : decode cX11_feed 30 = .ok (.iload_n 2, 1) := by decide +kernel
theorem dX11_feed_31 : decode cX11_feed 31 = .ok (.invokevirtual 98, 3) := by decide +kernel
theorem dX11_feed_34 : decode cX11_feed 34 = .ok (.aload 6, 2) := by decide +kernel
theorem dX11_feed_36 : decode cX11_feed 36 = .ok (.iload_n 3, 1) := by decide +kernel
theorem dX11_feed_37 : decode cX11_feed 37 = .ok (.invokevirtual 98, 3) := by decide +kernel
theorem dX11_feed_40 : decode cX11_feed 40 = .ok (.aload 6, 2) := by decide +kernel
theorem dX11_feed_42 : decode cX11_feed 42 = .ok (.iload 4, 2) := by decide +kernel
theorem dX11_feed_44 : decode cX11_feed 44 = .ok (.invokevirtual 98, 3) := by decide +kernel
theorem dX11_feed_47 : decode cX11_feed 47 = .ok (.aload 6, 2) := by decide +kernel
theorem dX11_feed_49 : decode cX11_feed 49 = .ok (.iload 5, 2) := by decide +kernel
theorem dX11_feed_51 : decode cX11_feed 51 = .ok (.invokevirtual 98, 3) := by decide +kernel
theorem dX11_feed_54 : decode cX11_feed 54 = .ok (.aload 6, 2) := by decide +kernel
theorem dX11_feed_56 : decode cX11_feed 56 = .ok (.getfield 93, 3) := by decide +kernel
theorem dX11_feed_59 : decode cX11_feed 59 = .ok (.ireturn, 1) := by decide +kernel
set_option maxHeartbeats 4000000 in
set_option maxRecDepth 100000 in
theorem fX11_feed (l : Launch) (dC : Nat → ClassId) (dI : Nat → Nat → Nat) (sz : Nat) (h0 : Nat) (r : Nat → Nat) (k1 : ClassId) (p0 : Int32) (p1 : Int32) (p2 : Int32) (p3 : Int32) (p4 : Int32) : Met l yX11_feed (.code yX11_feed cX11_feed 7 (some .int) :: wsGA) ({ frames := 1, cells := 0, slots := 0, locals := 21 }) (va_Pc [.ref h0, .int p0, .int p1, .int p2, .int p3, .int p4] (fun U => U.heap.size = sz ∧ va_P (dC, dI) vwCl [(h0, .inr (11, fsX r)), ((r 0), .inr (6, fsR r)), ((r 11), .inr (10, fsT r)), ((r 13), .inl (k1, 1600, .inl (fun _ => 0)))] U.heap ∧ va_K (dC, dI) vwCl [(k1, .byte)] U ∧ va_D (fun _ => True) [(h0, .inr (11, fsX r)), ((r 0), .inr (6, fsR r)), ((r 11), .inr (10, fsT r)), ((r 13), .inl (k1, 1600, .inl (fun _ => 0)))])) (va_Qi (fun (r : Int32) (u : Unit) => r = 20) (fun _ _ => True) (va_A [(h0, .inr (11, fsX r)), ((r 0), .inr (6, fsR r)), ((r 11), .inr (10, fsT r)), ((r 13), .inl (k1, 1600, .inl (fun _ => 0)))] sz)) 0 0 (va_A [(h0, .inr (11, fsX r)), ((r 0), .inr (6, fsR r)), ((r 11), .inr (10, fsT r)), ((r 13), .inl (k1, 1600, .inl (fun _ => 0)))] sz) := by
  refine Met.ofW (cc := cX11_feed) (maxL := 7) (ret := (some .int)) (by decide) rfl ?_
  intro p e s m args below meth c s₁ B hml hv
  obtain ⟨rfl, hsz, hP, hK, hD0⟩ := hv
  have hx := B.exec
  have hb := B.bytes
  have hr := B.returns
  have hts := atoms_spec (ws := (.code yX11_feed cX11_feed 7 (some .int) :: wsGA)) B.pre
  have hown : s.vm.findClass RX11 = some m.cls := findClass_of_methodNamed B.named
  have hlocks := B.notSynchronized
  subst hsz
  have hD := hD0.self (sz := s.heap.size)
  generalize hAe : va_A [(h0, .inr (11, fsX r)), ((r 0), .inr (6, fsR r)), ((r 11), .inr (10, fsT r)), ((r 13), .inl (k1, 1600, .inl (fun _ => 0)))] s.heap.size = A at hD ⊢
  have hA : ∀ q : Nat, s.heap.size ≤ q → A q := fun q h => by rw [← hAe]; exact Or.inr h
  have hS : va_S A s.heap s.heap [] := va_S.rf
  have hl := lv_entry ([.ref h0, .int p0, .int p1, .int p2, .int p3, .int p4]) (n := 7) (Nat.le_of_ble_eq_true rfl)
  rw [lg_entry_eq]
  generalize (lg_sl ([.ref h0, .int p0, .int p1, .int p2, .int p3, .int p4]) ++ List.replicate (7 - (lg_sl ([.ref h0, .int p0, .int p1, .int p2, .int p3, .int p4])).length) Slot.unset).toArray = ls at hl ⊢
  have hl : lv_has ls 7 [(0, .ref h0), (1, .int p0), (2, .int p1), (3, .int p2), (4, .int p3), (5, .int p4)] := hl
  refine lv_aload_n hx hb dX11_feed_0 rfl (lv_at hl 0 rfl) ?_
  refine va_get (D := (dC, dI)) (ci := 11) (v := .ref (r 0)) (C := RX11) (T := TX11) (N := 16) hx hb hts (fun w h => List.mem_cons_of_mem _ (jnGA_X11 w h)) hown hK hP 0 rfl rfl 0 (by decide) (hts _ (List.mem_cons_of_mem _ mGA_31)) (fun _ h9 => h9) rfl dX11_feed_1 ?_
  refine va_get (D := (dC, dI)) (ci := 6) (v := .ref (r 11)) (C := RX6) (T := TX6) (N := 7) hx hb hts (fun w h => List.mem_cons_of_mem _ (jnGA_X6 w h)) hown hK hP 1 rfl rfl 0 (by decide) (hts _ (List.mem_cons_of_mem _ mGA_37)) (fun _ h9 => h9) rfl dX11_feed_4 ?_
  refine lv_astore (lv' := [(6, .ref (r 11)), (0, .ref h0), (1, .int p0), (2, .int p1), (3, .int p2), (4, .int p3), (5, .int p4)]) hx hb dX11_feed_7 hl (by decide) rfl (fun ls hl => ?_)
  refine lv_aload hx hb dX11_feed_9 (lv_at hl 0 rfl) ?_
  refine va_get (D := (dC, dI)) (ci := 10) (v := .int 0) (C := RX10) (T := TX10) (N := 2) hx hb hts (fun w h => List.mem_cons_of_mem _ (jnGA_X10 w h)) hown hK hP 2 rfl rfl 1 (by decide) (hts _ (List.mem_cons_of_mem _ mGA_38)) (fun _ h9 => h9) rfl dX11_feed_11 ?_
  refine lv_sipush (v := 1580) hx hb dX11_feed_14 (by decide) ?_
  refine lv_icmp_le (tgt := 22) hx hb dX11_feed_17 (by decide) (fun c_1 => ?_) (fun c_1 => absurd (by decide) c_1)
  have hP : va_P (dC, dI) vwCl [(h0, .inr (11, fsX r)), ((r 0), .inr (6, fsR r)), ((r 11), .inr (10, [.ref (r 13), .int (nI 0)])), ((r 13), .inl (k1, 1600, .inl (fun _ => 0)))] s.heap := hP
  have hD : va_D A [(h0, .inr (11, fsX r)), ((r 0), .inr (6, fsR r)), ((r 11), .inr (10, [.ref (r 13), .int (nI 0)])), ((r 13), .inl (k1, 1600, .inl (fun _ => 0)))] := hD
  refine lv_aload hx hb dX11_feed_22 (lv_at hl 0 rfl) ?_
  refine lv_iload_n hx hb dX11_feed_24 rfl (lv_at hl 2 rfl) ?_
  have hPc := hP.sub (ws' := [((r 11), .inr (10, [.ref (r 13), .int (nI 0)])), ((r 13), .inl (k1, 1600, .inl (fun _ => 0)))]) [2, 3] rfl
  have hDc := hD.sub (ws' := [((r 11), .inr (10, [.ref (r 13), .int (nI 0)])), ((r 13), .inl (k1, 1600, .inl (fun _ => 0)))]) [2, 3] (by decide) rfl
  have hKc := hK.sub (tys' := [(k1, .byte)]) [0] rfl
  have hFc := va_free (wc := [((r 11), .inr (10, [.ref (r 13), .int (nI 0)])), ((r 13), .inl (k1, 1600, .inl (fun _ => 0)))]) hD hS hA [2, 3] rfl
  refine va_callv (va_runV (As := [.int p0]) (rest := []) ⟨hx, hb, hml, hown, hts⟩ (fX10_put l dC dI s.heap.size (r 11) (r 13) k1 0 (fun _ => 0) p0 (by decide)) (cwV 1 hts (gz_gV mGA_161 mGA_162 mGA_163 mGA_102 mGA_160 goodGA) rfl rfl rfl (by decide +kernel) ⟨Nat.le_of_ble_eq_true rfl, Nat.le_of_ble_eq_true rfl⟩) ⟨fun a U g mk q => by obtain ⟨q0, q1, qP, qK, qD⟩ := q; exact ⟨q0, q1, qP, va_K.moved (u := U) (U := U.calling g mk a) (Vm.Alike.refl U.vm) qK, qD⟩, va_recv hKc hPc (ci := 10) (q0 := 0) rfl rfl, fun U hU hW => ⟨rfl, by rw [hU], by rw [hU]; exact hPc, va_K.moved hW.alike hKc, hDc.weaken (fun _ _ _ _ => trivial)⟩⟩ rfl rfl hl.1 rfl (lv_room (Nat.le_of_ble_eq_true rfl)) dX11_feed_25 ⟨Nat.le_of_ble_eq_true rfl, Nat.le_of_ble_eq_true rfl⟩) hS (fun q _ h => hFc q h) hFc (fun  u t H1 locs ht hvm hw hB hz1 hk1 hS => ?_)
  obtain ⟨f_2, hP1, hK1, hD1⟩ := hB
  rw [ht] at hP1
  have hK1 := va_K.moved hvm.symm hK1
  obtain ⟨hP, hD⟩ := va_join (wr := [(h0, .inr (11, fsX r)), ((r 0), .inr (6, fsR r))]) (w1 := [((r 11), .inr (10, [.ref (r 13), .int (nI (0 + 4))])), ((r 13), .inl (k1, 1600, .inl f_2))]) hP hD [2, 3] [0, 1] rfl rfl (by decide) (by decide) hk1 hFc hP1 hD1
  generalize H1 = H at hP hS ⊢
  have hP : va_P (dC, dI) vwCl [(h0, .inr (11, fsX r)), ((r 0), .inr (6, fsR r)), ((r 11), .inr (10, [.ref (r 13), .int (nI (0 + 4))])), ((r 13), .inl (k1, 1600, .inl f_2))] H := hP
  have hD : va_D A [(h0, .inr (11, fsX r)), ((r 0), .inr (6, fsR r)), ((r 11), .inr (10, [.ref (r 13), .int (nI (0 + 4))])), ((r 13), .inl (k1, 1600, .inl f_2))] := hD
  have hP : va_P (dC, dI) vwCl [(h0, .inr (11, fsX r)), ((r 0), .inr (6, fsR r)), ((r 11), .inr (10, [.ref (r 13), .int (nI 4)])), ((r 13), .inl (k1, 1600, .inl f_2))] H := hP
  have hD : va_D A [(h0, .inr (11, fsX r)), ((r 0), .inr (6, fsR r)), ((r 11), .inr (10, [.ref (r 13), .int (nI 4)])), ((r 13), .inl (k1, 1600, .inl f_2))] := hD
  refine lv_aload hx hb dX11_feed_28 (lv_at hl 0 rfl) ?_
  refine lv_iload_n hx hb dX11_feed_30 rfl (lv_at hl 3 rfl) ?_
  have hPc := hP.sub (ws' := [((r 11), .inr (10, [.ref (r 13), .int (nI 4)])), ((r 13), .inl (k1, 1600, .inl f_2))]) [2, 3] rfl
  have hDc := hD.sub (ws' := [((r 11), .inr (10, [.ref (r 13), .int (nI 4)])), ((r 13), .inl (k1, 1600, .inl f_2))]) [2, 3] (by decide) rfl
  have hKc := hK.sub (tys' := [(k1, .byte)]) [0] rfl
  have hFc := va_free (wc := [((r 11), .inr (10, [.ref (r 13), .int (nI 4)])), ((r 13), .inl (k1, 1600, .inl f_2))]) hD hS hA [2, 3] rfl
  refine va_callv (va_runV (As := [.int p1]) (rest := []) ⟨hx, hb, hml, hown, hts⟩ (fX10_put l dC dI H.size (r 11) (r 13) k1 4 f_2 p1 (by decide)) (cwV 1 hts (gz_gV mGA_161 mGA_162 mGA_163 mGA_102 mGA_160 goodGA) rfl rfl rfl (by decide +kernel) ⟨Nat.le_of_ble_eq_true rfl, Nat.le_of_ble_eq_true rfl⟩) ⟨fun a U g mk q => by obtain ⟨q0, q1, qP, qK, qD⟩ := q; exact ⟨q0, q1, qP, va_K.moved (u := U) (U := U.calling g mk a) (Vm.Alike.refl U.vm) qK, qD⟩, va_recv hKc hPc (ci := 10) (q0 := 0) rfl rfl, fun U hU hW => ⟨rfl, by rw [hU], by rw [hU]; exact hPc, va_K.moved hW.alike hKc, hDc.weaken (fun _ _ _ _ => trivial)⟩⟩ rfl rfl hl.1 rfl (lv_room (Nat.le_of_ble_eq_true rfl)) dX11_feed_31 ⟨Nat.le_of_ble_eq_true rfl, Nat.le_of_ble_eq_true rfl⟩) hS (fun q _ h => hFc q h) hFc (fun  u t H1 locs ht hvm hw hB hz1 hk1 hS => ?_)
  obtain ⟨f_4, hP1, hK1, hD1⟩ := hB
  rw [ht] at hP1
  have hK1 := va_K.moved hvm.symm hK1
  obtain ⟨hP, hD⟩ := va_join (wr := [(h0, .inr (11, fsX r)), ((r 0), .inr (6, fsR r))]) (w1 := [((r 11), .inr (10, [.ref (r 13), .int (nI (4 + 4))])), ((r 13), .inl (k1, 1600, .inl f_4))]) hP hD [2, 3] [0, 1] rfl rfl (by decide) (by decide) hk1 hFc hP1 hD1
  generalize H1 = H at hP hS ⊢
  have hP : va_P (dC, dI) vwCl [(h0, .inr (11, fsX r)), ((r 0), .inr (6, fsR r)), ((r 11), .inr (10, [.ref (r 13), .int (nI (4 + 4))])), ((r 13), .inl (k1, 1600, .inl f_4))] H := hP
  have hD : va_D A [(h0, .inr (11, fsX r)), ((r 0), .inr (6, fsR r)), ((r 11), .inr (10, [.ref (r 13), .int (nI (4 + 4))])), ((r 13), .inl (k1, 1600, .inl f_4))] := hD
  have hP : va_P (dC, dI) vwCl [(h0, .inr (11, fsX r)), ((r 0), .inr (6, fsR r)), ((r 11), .inr (10, [.ref (r 13), .int (nI 8)])), ((r 13), .inl (k1, 1600, .inl f_4))] H := hP
  have hD : va_D A [(h0, .inr (11, fsX r)), ((r 0), .inr (6, fsR r)), ((r 11), .inr (10, [.ref (r 13), .int (nI 8)])), ((r 13), .inl (k1, 1600, .inl f_4))] := hD
  refine lv_aload hx hb dX11_feed_34 (lv_at hl 0 rfl) ?_
  refine lv_iload_n hx hb dX11_feed_36 rfl (lv_at hl 4 rfl) ?_
  have hPc := hP.sub (ws' := [((r 11), .inr (10, [.ref (r 13), .int (nI 8)])), ((r 13), .inl (k1, 1600, .inl f_4))]) [2, 3] rfl
  have hDc := hD.sub (ws' := [((r 11), .inr (10, [.ref (r 13), .int (nI 8)])), ((r 13), .inl (k1, 1600, .inl f_4))]) [2, 3] (by decide) rfl
  have hKc := hK.sub (tys' := [(k1, .byte)]) [0] rfl
  have hFc := va_free (wc := [((r 11), .inr (10, [.ref (r 13), .int (nI 8)])), ((r 13), .inl (k1, 1600, .inl f_4))]) hD hS hA [2, 3] rfl
  refine va_callv (va_runV (As := [.int p2]) (rest := []) ⟨hx, hb, hml, hown, hts⟩ (fX10_put l dC dI H.size (r 11) (r 13) k1 8 f_4 p2 (by decide)) (cwV 1 hts (gz_gV mGA_161 mGA_162 mGA_163 mGA_102 mGA_160 goodGA) rfl rfl rfl (by decide +kernel) ⟨Nat.le_of_ble_eq_true rfl, Nat.le_of_ble_eq_true rfl⟩) ⟨fun a U g mk q => by obtain ⟨q0, q1, qP, qK, qD⟩ := q; exact ⟨q0, q1, qP, va_K.moved (u := U) (U := U.calling g mk a) (Vm.Alike.refl U.vm) qK, qD⟩, va_recv hKc hPc (ci := 10) (q0 := 0) rfl rfl, fun U hU hW => ⟨rfl, by rw [hU], by rw [hU]; exact hPc, va_K.moved hW.alike hKc, hDc.weaken (fun _ _ _ _ => trivial)⟩⟩ rfl rfl hl.1 rfl (lv_room (Nat.le_of_ble_eq_true rfl)) dX11_feed_37 ⟨Nat.le_of_ble_eq_true rfl, Nat.le_of_ble_eq_true rfl⟩) hS (fun q _ h => hFc q h) hFc (fun  u t H1 locs ht hvm hw hB hz1 hk1 hS => ?_)
  obtain ⟨f_6, hP1, hK1, hD1⟩ := hB
  rw [ht] at hP1
  have hK1 := va_K.moved hvm.symm hK1
  obtain ⟨hP, hD⟩ := va_join (wr := [(h0, .inr (11, fsX r)), ((r 0), .inr (6, fsR r))]) (w1 := [((r 11), .inr (10, [.ref (r 13), .int (nI (8 + 4))])), ((r 13), .inl (k1, 1600, .inl f_6))]) hP hD [2, 3] [0, 1] rfl rfl (by decide) (by decide) hk1 hFc hP1 hD1
  generalize H1 = H at hP hS ⊢
  have hP : va_P (dC, dI) vwCl [(h0, .inr (11, fsX r)), ((r 0), .inr (6, fsR r)), ((r 11), .inr (10, [.ref (r 13), .int (nI (8 + 4))])), ((r 13), .inl (k1, 1600, .inl f_6))] H := hP
  have hD : va_D A [(h0, .inr (11, fsX r)), ((r 0), .inr (6, fsR r)), ((r 11), .inr (10, [.ref (r 13), .int (nI (8 + 4))])), ((r 13), .inl (k1, 1600, .inl f_6))] := hD
  have hP : va_P (dC, dI) vwCl [(h0, .inr (11, fsX r)), ((r 0), .inr (6, fsR r)), ((r 11), .inr (10, [.ref (r 13), .int (nI 12)])), ((r 13), .inl (k1, 1600, .inl f_6))] H := hP
  have hD : va_D A [(h0, .inr (11, fsX r)), ((r 0), .inr (6, fsR r)), ((r 11), .inr (10, [.ref (r 13), .int (nI 12)])), ((r 13), .inl (k1, 1600, .inl f_6))] := hD
  refine lv_aload hx hb dX11_feed_40 (lv_at hl 0 rfl) ?_
  refine lv_iload hx hb dX11_feed_42 (lv_at hl 5 rfl) ?_
  have hPc := hP.sub (ws' := [((r 11), .inr (10, [.ref (r 13), .int (nI 12)])), ((r 13), .inl (k1, 1600, .inl f_6))]) [2, 3] rfl
  have hDc := hD.sub (ws' := [((r 11), .inr (10, [.ref (r 13), .int (nI 12)])), ((r 13), .inl (k1, 1600, .inl f_6))]) [2, 3] (by decide) rfl
  have hKc := hK.sub (tys' := [(k1, .byte)]) [0] rfl
  have hFc := va_free (wc := [((r 11), .inr (10, [.ref (r 13), .int (nI 12)])), ((r 13), .inl (k1, 1600, .inl f_6))]) hD hS hA [2, 3] rfl
  refine va_callv (va_runV (As := [.int p3]) (rest := []) ⟨hx, hb, hml, hown, hts⟩ (fX10_put l dC dI H.size (r 11) (r 13) k1 12 f_6 p3 (by decide)) (cwV 1 hts (gz_gV mGA_161 mGA_162 mGA_163 mGA_102 mGA_160 goodGA) rfl rfl rfl (by decide +kernel) ⟨Nat.le_of_ble_eq_true rfl, Nat.le_of_ble_eq_true rfl⟩) ⟨fun a U g mk q => by obtain ⟨q0, q1, qP, qK, qD⟩ := q; exact ⟨q0, q1, qP, va_K.moved (u := U) (U := U.calling g mk a) (Vm.Alike.refl U.vm) qK, qD⟩, va_recv hKc hPc (ci := 10) (q0 := 0) rfl rfl, fun U hU hW => ⟨rfl, by rw [hU], by rw [hU]; exact hPc, va_K.moved hW.alike hKc, hDc.weaken (fun _ _ _ _ => trivial)⟩⟩ rfl rfl hl.1 rfl (lv_room (Nat.le_of_ble_eq_true rfl)) dX11_feed_44 ⟨Nat.le_of_ble_eq_true rfl, Nat.le_of_ble_eq_true rfl⟩) hS (fun q _ h => hFc q h) hFc (fun  u t H1 locs ht hvm hw hB hz1 hk1 hS => ?_)
  obtain ⟨f_8, hP1, hK1, hD1⟩ := hB
  rw [ht] at hP1
  have hK1 := va_K.moved hvm.symm hK1
  obtain ⟨hP, hD⟩ := va_join (wr := [(h0, .inr (11, fsX r)), ((r 0), .inr (6, fsR r))]) (w1 := [((r 11), .inr (10, [.ref (r 13), .int (nI (12 + 4))])), ((r 13), .inl (k1, 1600, .inl f_8))]) hP hD [2, 3] [0, 1] rfl rfl (by decide) (by decide) hk1 hFc hP1 hD1
  generalize H1 = H at hP hS ⊢
  have hP : va_P (dC, dI) vwCl [(h0, .inr (11, fsX r)), ((r 0), .inr (6, fsR r)), ((r 11), .inr (10, [.ref (r 13), .int (nI (12 + 4))])), ((r 13), .inl (k1, 1600, .inl f_8))] H := hP
  have hD : va_D A [(h0, .inr (11, fsX r)), ((r 0), .inr (6, fsR r)), ((r 11), .inr (10, [.ref (r 13), .int (nI (12 + 4))])), ((r 13), .inl (k1, 1600, .inl f_8))] := hD
  have hP : va_P (dC, dI) vwCl [(h0, .inr (11, fsX r)), ((r 0), .inr (6, fsR r)), ((r 11), .inr (10, [.ref (r 13), .int (nI 16)])), ((r 13), .inl (k1, 1600, .inl f_8))] H := hP
  have hD : va_D A [(h0, .inr (11, fsX r)), ((r 0), .inr (6, fsR r)), ((r 11), .inr (10, [.ref (r 13), .int (nI 16)])), ((r 13), .inl (k1, 1600, .inl f_8))] := hD
  refine lv_aload hx hb dX11_feed_47 (lv_at hl 0 rfl) ?_
  refine lv_iload hx hb dX11_feed_49 (lv_at hl 6 rfl) ?_
  have hPc := hP.sub (ws' := [((r 11), .inr (10, [.ref (r 13), .int (nI 16)])), ((r 13), .inl (k1, 1600, .inl f_8))]) [2, 3] rfl
  have hDc := hD.sub (ws' := [((r 11), .inr (10, [.ref (r 13), .int (nI 16)])), ((r 13), .inl (k1, 1600, .inl f_8))]) [2, 3] (by decide) rfl
  have hKc := hK.sub (tys' := [(k1, .byte)]) [0] rfl
  have hFc := va_free (wc := [((r 11), .inr (10, [.ref (r 13), .int (nI 16)])), ((r 13), .inl (k1, 1600, .inl f_8))]) hD hS hA [2, 3] rfl
  refine va_callv (va_runV (As := [.int p4]) (rest := []) ⟨hx, hb, hml, hown, hts⟩ (fX10_put l dC dI H.size (r 11) (r 13) k1 16 f_8 p4 (by decide)) (cwV 1 hts (gz_gV mGA_161 mGA_162 mGA_163 mGA_102 mGA_160 goodGA) rfl rfl rfl (by decide +kernel) ⟨Nat.le_of_ble_eq_true rfl, Nat.le_of_ble_eq_true rfl⟩) ⟨fun a U g mk q => by obtain ⟨q0, q1, qP, qK, qD⟩ := q; exact ⟨q0, q1, qP, va_K.moved (u := U) (U := U.calling g mk a) (Vm.Alike.refl U.vm) qK, qD⟩, va_recv hKc hPc (ci := 10) (q0 := 0) rfl rfl, fun U hU hW => ⟨rfl, by rw [hU], by rw [hU]; exact hPc, va_K.moved hW.alike hKc, hDc.weaken (fun _ _ _ _ => trivial)⟩⟩ rfl rfl hl.1 rfl (lv_room (Nat.le_of_ble_eq_true rfl)) dX11_feed_51 ⟨Nat.le_of_ble_eq_true rfl, Nat.le_of_ble_eq_true rfl⟩) hS (fun q _ h => hFc q h) hFc (fun  u t H1 locs ht hvm hw hB hz1 hk1 hS => ?_)
  obtain ⟨f_10, hP1, hK1, hD1⟩ := hB
  rw [ht] at hP1
  have hK1 := va_K.moved hvm.symm hK1
  obtain ⟨hP, hD⟩ := va_join (wr := [(h0, .inr (11, fsX r)), ((r 0), .inr (6, fsR r))]) (w1 := [((r 11), .inr (10, [.ref (r 13), .int (nI (16 + 4))])), ((r 13), .inl (k1, 1600, .inl f_10))]) hP hD [2, 3] [0, 1] rfl rfl (by decide) (by decide) hk1 hFc hP1 hD1
  generalize H1 = H at hP hS ⊢
  have hP : va_P (dC, dI) vwCl [(h0, .inr (11, fsX r)), ((r 0), .inr (6, fsR r)), ((r 11), .inr (10, [.ref (r 13), .int (nI (16 + 4))])), ((r 13), .inl (k1, 1600, .inl f_10))] H := hP
  have hD : va_D A [(h0, .inr (11, fsX r)), ((r 0), .inr (6, fsR r)), ((r 11), .inr (10, [.ref (r 13), .int (nI (16 + 4))])), ((r 13), .inl (k1, 1600, .inl f_10))] := hD
  have hP : va_P (dC, dI) vwCl [(h0, .inr (11, fsX r)), ((r 0), .inr (6, fsR r)), ((r 11), .inr (10, [.ref (r 13), .int (nI 20)])), ((r 13), .inl (k1, 1600, .inl f_10))] H := hP
  have hD : va_D A [(h0, .inr (11, fsX r)), ((r 0), .inr (6, fsR r)), ((r 11), .inr (10, [.ref (r 13), .int (nI 20)])), ((r 13), .inl (k1, 1600, .inl f_10))] := hD
  refine lv_aload hx hb dX11_feed_54 (lv_at hl 0 rfl) ?_
  refine va_get (D := (dC, dI)) (ci := 10) (v := .int (nI 20)) (C := RX10) (T := TX10) (N := 2) hx hb hts (fun w h => List.mem_cons_of_mem _ (jnGA_X10 w h)) hown hK hP 2 rfl rfl 1 (by decide) (hts _ (List.mem_cons_of_mem _ mGA_38)) (fun _ h9 => h9) rfl dX11_feed_56 ?_
  refine W.widen (k := 0) (n := 0) (Nat.le_of_ble_eq_true rfl) (Nat.le_of_ble_eq_true rfl) ?_
  exact W.iret (v := nI 20) hx hb hr (fun t ht hW => ⟨⟨nI 20, (), rfl, rfl, trivial⟩, hS.F ht⟩) hS.2.2 dX11_feed_59
theorem dX11_end_0 : decode cX11_end 0 = .ok (.iload_n 1, 1) := by decide +kernel
theorem dX11_end_1 : decode cX11_end 1 = .ok (.ifCond .lt 17, 3) := by decide +kernel
theorem dX11_end_4 : decode cX11_end 4 = .ok (.iload_n 1, 1) := by decide +kernel
theorem dX11_end_5 : decode cX11_end 5 = .ok (.aload_n 0, 1) := by decide +kernel
theorem dX11_end_6 : decode cX11_end 6 = .ok (.getfield 12, 3) := by decide +kernel
theorem dX11_end_9 : decode cX11_end 9 = .ok (.getfield 89, 3) := by decide +kernel
theorem dX11_end_12 : decode cX11_end 12 = .ok (.getfield 93, 3) := by decide +kernel
theorem dX11_end_15 : decode cX11_end 15 = .ok (.if_icmp .le 5, 3) := by decide +kernel
theorem dX11_end_18 : decode cX11_end 18 = .ok (.iconst (-1), 1) := by decide +kernel
theorem dX11_end_19 : decode cX11_end 19 = .ok (.ireturn, 1) := by decide +kernel
theorem dX11_end_20 : decode cX11_end 20 = .ok (.aload_n 0, 1) := by decide +kernel
theorem dX11_end_21 : decode cX11_end 21 = .ok (.getfield 12, 3) := by decide +kernel
theorem dX11_end_24 : decode cX11_end 24 = .ok (.getfield 89, 3) := by decide +kernel
theorem dX11_end_27 : decode cX11_end 27 = .ok (.iload_n 1, 1) := by decide +kernel
theorem dX11_end_28 : decode cX11_end 28 = .ok (.putfield 93, 3) := by decide +kernel
theorem dX11_end_31 : decode cX11_end 31 = .ok (.iload_n 1, 1) := by decide +kernel
theorem dX11_end_32 : decode cX11_end 32 = .ok (.ireturn, 1) := by decide +kernel
set_option maxHeartbeats 4000000 in
set_option maxRecDepth 100000 in
theorem fX11_end (l : Launch) (dC : Nat → ClassId) (dI : Nat → Nat → Nat) (sz : Nat) (h0 : Nat) (r : Nat → Nat) (p0 : Int32) : Met l yX11_end (.code yX11_end cX11_end 2 (some .int) :: wsGA) ({ frames := 0, cells := 0, slots := 0, locals := 0 }) (va_Pc [.ref h0, .int p0] (fun U => U.heap.size = sz ∧ va_P (dC, dI) vwCl [(h0, .inr (11, fsX r)), ((r 0), .inr (6, fsR r)), ((r 11), .inr (10, fsT r))] U.heap ∧ va_K (dC, dI) vwCl [] U ∧ va_D (fun _ => True) [(h0, .inr (11, fsX r)), ((r 0), .inr (6, fsR r)), ((r 11), .inr (10, fsT r))])) (va_Qi (fun (r : Int32) (u : Unit) => r = gz_end p0) (fun _ _ => True) (va_A [(h0, .inr (11, fsX r)), ((r 0), .inr (6, fsR r)), ((r 11), .inr (10, fsT r))] sz)) 0 0 (va_A [(h0, .inr (11, fsX r)), ((r 0), .inr (6, fsR r)), ((r 11), .inr (10, fsT r))] sz) := by
  refine Met.ofW (cc := cX11_end) (maxL := 2) (ret := (some .int)) (by decide) rfl ?_
  intro p e s m args below meth c s₁ B hml hv
  obtain ⟨rfl, hsz, hP, hK, hD0⟩ := hv
  have hx := B.exec
  have hb := B.bytes
  have hr := B.returns
  have hts := atoms_spec (ws := (.code yX11_end cX11_end 2 (some .int) :: wsGA)) B.pre
  have hown : s.vm.findClass RX11 = some m.cls := findClass_of_methodNamed B.named
  have hlocks := B.notSynchronized
  subst hsz
  have hD := hD0.self (sz := s.heap.size)
  generalize hAe : va_A [(h0, .inr (11, fsX r)), ((r 0), .inr (6, fsR r)), ((r 11), .inr (10, fsT r))] s.heap.size = A at hD ⊢
  have hA : ∀ q : Nat, s.heap.size ≤ q → A q := fun q h => by rw [← hAe]; exact Or.inr h
  have hS : va_S A s.heap s.heap [] := va_S.rf
  have hl := lv_entry ([.ref h0, .int p0]) (n := 2) (Nat.le_of_ble_eq_true rfl)
  rw [lg_entry_eq]
  generalize (lg_sl ([.ref h0, .int p0]) ++ List.replicate (2 - (lg_sl ([.ref h0, .int p0])).length) Slot.unset).toArray = ls at hl ⊢
  have hl : lv_has ls 2 [(0, .ref h0), (1, .int p0)] := hl
  refine lv_iload_n hx hb dX11_end_0 rfl (lv_at hl 1 rfl) ?_
  refine lv_if_lt (tgt := 18) hx hb dX11_end_1 (by decide) (fun c_1 => ?_) (fun c_1 => ?_)
  · refine lv_iconst (v := (-1)) hx hb dX11_end_18 (by decide) ?_
    refine W.widen (k := 0) (n := 0) (Nat.le_of_ble_eq_true rfl) (Nat.le_of_ble_eq_true rfl) ?_
    exact W.iret (v := (-1)) hx hb hr (fun t ht hW => ⟨⟨(-1), (), rfl, (gz_end_neg c_1), trivial⟩, hS.F ht⟩) hS.2.2 dX11_end_19
  · refine lv_iload_n hx hb dX11_end_4 rfl (lv_at hl 1 rfl) ?_
    refine lv_aload_n hx hb dX11_end_5 rfl (lv_at hl 0 rfl) ?_
    refine va_get (D := (dC, dI)) (ci := 11) (v := .ref (r 0)) (C := RX11) (T := TX11) (N := 16) hx hb hts (fun w h => List.mem_cons_of_mem _ (jnGA_X11 w h)) hown hK hP 0 rfl rfl 0 (by decide) (hts _ (List.mem_cons_of_mem _ mGA_31)) (fun _ h9 => h9) rfl dX11_end_6 ?_
    refine va_get (D := (dC, dI)) (ci := 6) (v := .ref (r 11)) (C := RX6) (T := TX6) (N := 7) hx hb hts (fun w h => List.mem_cons_of_mem _ (jnGA_X6 w h)) hown hK hP 1 rfl rfl 0 (by decide) (hts _ (List.mem_cons_of_mem _ mGA_37)) (fun _ h9 => h9) rfl dX11_end_9 ?_
    refine va_get (D := (dC, dI)) (ci := 10) (v := .int 0) (C := RX10) (T := TX10) (N := 2) hx hb hts (fun w h => List.mem_cons_of_mem _ (jnGA_X10 w h)) hown hK hP 2 rfl rfl 1 (by decide) (hts _ (List.mem_cons_of_mem _ mGA_38)) (fun _ h9 => h9) rfl dX11_end_12 ?_
    refine lv_icmp_le (tgt := 20) hx hb dX11_end_15 (by decide) (fun c_2 => ?_) (fun c_2 => ?_)
    · refine lv_aload_n hx hb dX11_end_20 rfl (lv_at hl 0 rfl) ?_
      refine va_get (D := (dC, dI)) (ci := 11) (v := .ref (r 0)) (C := RX11) (T := TX11) (N := 16) hx hb hts (fun w h => List.mem_cons_of_mem _ (jnGA_X11 w h)) hown hK hP 0 rfl rfl 0 (by decide) (hts _ (List.mem_cons_of_mem _ mGA_31)) (fun _ h9 => h9) rfl dX11_end_21 ?_
      refine va_get (D := (dC, dI)) (ci := 6) (v := .ref (r 11)) (C := RX6) (T := TX6) (N := 7) hx hb hts (fun w h => List.mem_cons_of_mem _ (jnGA_X6 w h)) hown hK hP 1 rfl rfl 0 (by decide) (hts _ (List.mem_cons_of_mem _ mGA_37)) (fun _ h9 => h9) rfl dX11_end_24 ?_
      refine lv_iload_n hx hb dX11_end_27 rfl (lv_at hl 1 rfl) ?_
      refine va_put (D := (dC, dI)) (ci := 10) (v := .int p0) (ty := .int) (C := RX10) (T := TX10) (N := 2) hx hb hts (fun w h => List.mem_cons_of_mem _ (jnGA_X10 w h)) tyX10 tyX10_ok nmX10 hown hK hP hD hS 2 rfl rfl 1 (by decide) (hts _ (List.mem_cons_of_mem _ mGA_38)) (fun _ h9 => h9) rfl (by decide +kernel) rfl rfl (Nat.le_of_ble_eq_true rfl) dX11_end_28 (fun H locs hP hD hS => ?_)
      have hP : va_P (dC, dI) vwCl [(h0, .inr (11, fsX r)), ((r 0), .inr (6, fsR r)), ((r 11), .inr (10, [.ref (r 13), .int p0]))] H := hP
      have hD : va_D A [(h0, .inr (11, fsX r)), ((r 0), .inr (6, fsR r)), ((r 11), .inr (10, [.ref (r 13), .int p0]))] := hD
      refine lv_iload_n hx hb dX11_end_31 rfl (lv_at hl 1 rfl) ?_
      refine W.widen (k := 0) (n := 0) (Nat.le_of_ble_eq_true rfl) (Nat.le_of_ble_eq_true rfl) ?_
      exact W.iret (v := p0) hx hb hr (fun t ht hW => ⟨⟨p0, (), rfl, (gz_end_z c_1 c_2), trivial⟩, hS.F ht⟩) hS.2.2 dX11_end_32
    · refine lv_iconst (v := (-1)) hx hb dX11_end_18 (by decide) ?_
      refine W.widen (k := 0) (n := 0) (Nat.le_of_ble_eq_true rfl) (Nat.le_of_ble_eq_true rfl) ?_
      exact W.iret (v := (-1)) hx hb hr (fun t ht hW => ⟨⟨(-1), (), rfl, (gz_end_pos c_2), trivial⟩, hS.F ht⟩) hS.2.2 dX11_end_19
theorem dX0_wipe_0 : decode cX0_wipe 0 = .ok (.aload_n 0, 1) := by decide +kernel
theorem dX0_wipe_1 : decode cX0_wipe 1 = .ok (.iconst 0, 1) := by decide +kernel
theorem dX0_wipe_2 : decode cX0_wipe 2 = .ok (.putfield 32, 3) := by decide +kernel
theorem dX0_wipe_5 : decode cX0_wipe 5 = .ok (.aload_n 0, 1) := by decide +kernel
theorem dX0_wipe_6 : decode cX0_wipe 6 = .ok (.iconst 0, 1) := by decide +kernel
theorem dX0_wipe_7 : decode cX0_wipe 7 = .ok (.putfield 36, 3) := by decide +kernel
theorem dX0_wipe_10 : decode cX0_wipe 10 = .ok (.aload_n 0, 1) := by decide +kernel
theorem dX0_wipe_11 : decode cX0_wipe 11 = .ok (.iconst 0, 1) := by decide +kernel
theorem dX0_wipe_12 : decode cX0_wipe 12 = .ok (.putfield 39, 3) := by decide +kernel
theorem dX0_wipe_15 : decode cX0_wipe 15 = .ok (.aload_n 0, 1) := by decide +kernel
theorem dX0_wipe_16 : decode cX0_wipe 16 = .ok (.iconst 0, 1) := by decide +kernel
theorem dX0_wipe_17 : decode cX0_wipe 17 = .ok (.putfield 42, 3) := by decide +kernel
theorem dX0_wipe_20 : decode cX0_wipe 20 = .ok (.aload_n 0, 1) := by decide +kernel
theorem dX0_wipe_21 : decode cX0_wipe 21 = .ok (.iconst 0, 1) := by decide +kernel
theorem dX0_wipe_22 : decode cX0_wipe 22 = .ok (.putfield 45, 3) := by decide +kernel
theorem dX0_wipe_25 : decode cX0_wipe 25 = .ok (.aload_n 0, 1) := by decide +kernel
theorem dX0_wipe_26 : decode cX0_wipe 26 = .ok (.iconst 0, 1) := by decide +kernel
theorem dX0_wipe_27 : decode cX0_wipe 27 = .ok (.putfield 49, 3) := by decide +kernel
theorem dX0_wipe_30 : decode cX0_wipe 30 = .ok (.aload_n 0, 1) := by decide +kernel
theorem dX0_wipe_31 : decode cX0_wipe 31 = .ok (.iconst 0, 1) := by decide +kernel
theorem dX0_wipe_32 : decode cX0_wipe 32 = .ok (.putfield 52, 3) := by decide +kernel
theorem dX0_wipe_35 : decode cX0_wipe 35 = .ok (.aload_n 0, 1) := by decide +kernel
theorem dX0_wipe_36 : decode cX0_wipe 36 = .ok (.iconst 0, 1) := by decide +kernel
theorem dX0_wipe_37 : decode cX0_wipe 37 = .ok (.putfield 55, 3) := by decide +kernel
theorem dX0_wipe_40 : decode cX0_wipe 40 = .ok (.aload_n 0, 1) := by decide +kernel
theorem dX0_wipe_41 : decode cX0_wipe 41 = .ok (.iconst 0, 1) := by decide +kernel
theorem dX0_wipe_42 : decode cX0_wipe 42 = .ok (.putfield 58, 3) := by decide +kernel
theorem dX0_wipe_45 : decode cX0_wipe 45 = .ok (.aload_n 0, 1) := by decide +kernel
theorem dX0_wipe_46 : decode cX0_wipe 46 = .ok (.iconst 0, 1) := by decide +kernel
theorem dX0_wipe_47 : decode cX0_wipe 47 = .ok (.putfield 61, 3) := by decide +kernel
theorem dX0_wipe_50 : decode cX0_wipe 50 = .ok (.return_, 1) := by decide +kernel
set_option maxHeartbeats 4000000 in
set_option maxRecDepth 100000 in
theorem fX0_wipe (l : Launch) (dC : Nat → ClassId) (dI : Nat → Nat → Nat) (sz : Nat) (h0 : Nat) (r : Nat → Nat) : Met l yX0_wipe (.code yX0_wipe cX0_wipe 1 none :: wsGA) ({ frames := 0, cells := 0, slots := 0, locals := 0 }) (va_Pc [.ref h0] (fun U => U.heap.size = sz ∧ va_P (dC, dI) vwCl [(h0, .inr (0, fsD r))] U.heap ∧ va_K (dC, dI) vwCl [] U ∧ va_D (fun _ => True) [(h0, .inr (0, fsD r))])) (va_Qv (fun (u : Unit) => True) (fun _ t => va_P (dC, dI) vwCl [(h0, .inr (0, fsD r))] t.heap ∧ va_K (dC, dI) vwCl [] t ∧ va_D (va_A [(h0, .inr (0, fsD r))] sz) [(h0, .inr (0, fsD r))]) (va_A [(h0, .inr (0, fsD r))] sz)) 0 0 (va_A [(h0, .inr (0, fsD r))] sz) := by
  refine Met.ofW (cc := cX0_wipe) (maxL := 1) (ret := none) (by decide) rfl ?_
  intro p e s m args below meth c s₁ B hml hv
  obtain ⟨rfl, hsz, hP, hK, hD0⟩ := hv
  have hx := B.exec
  have hb := B.bytes
  have hr := B.returns
  have hts := atoms_spec (ws := (.code yX0_wipe cX0_wipe 1 none :: wsGA)) B.pre
  have hown : s.vm.findClass RX0 = some m.cls := findClass_of_methodNamed B.named
  have hlocks := B.notSynchronized
  subst hsz
  have hD := hD0.self (sz := s.heap.size)
  generalize hAe : va_A [(h0, .inr (0, fsD r))] s.heap.size = A at hD ⊢
  have hA : ∀ q : Nat, s.heap.size ≤ q → A q := fun q h => by rw [← hAe]; exact Or.inr h
  have hS : va_S A s.heap s.heap [] := va_S.rf
  have hl := lv_entry ([.ref h0]) (n := 1) (Nat.le_of_ble_eq_true rfl)
  rw [lg_entry_eq]
  generalize (lg_sl ([.ref h0]) ++ List.replicate (1 - (lg_sl ([.ref h0])).length) Slot.unset).toArray = ls at hl ⊢
  have hl : lv_has ls 1 [(0, .ref h0)] := hl
  refine lv_aload_n hx hb dX0_wipe_0 rfl (lv_at hl 0 rfl) ?_
  refine lv_iconst (v := 0) hx hb dX0_wipe_1 (by decide) ?_
  refine va_put (D := (dC, dI)) (ci := 0) (v := .int 0) (ty := .int) (C := RX0) (T := TX0) (N := 13) hx hb hts (fun w h => List.mem_cons_of_mem _ (jnGA_X0 w h)) tyX0 tyX0_ok nmX0 hown hK hP hD hS 0 rfl rfl 0 (by decide) (hts _ (List.mem_cons_of_mem _ mGA_164)) (fun _ h9 => h9) rfl (by decide +kernel) rfl rfl (Nat.le_of_ble_eq_true rfl) dX0_wipe_2 (fun H locs hP hD hS => ?_)
  have hP : va_P (dC, dI) vwCl [(h0, .inr (0, [.int 0, .int 0, .int 0, .int 0, .int 0, .int 0, .int 0, .int 0, .int 0, .int 0, .ref (r 17), .ref (r 18), .ref (r 19)]))] H := hP
  have hD : va_D A [(h0, .inr (0, [.int 0, .int 0, .int 0, .int 0, .int 0, .int 0, .int 0, .int 0, .int 0, .int 0, .ref (r 17), .ref (r 18), .ref (r 19)]))] := hD
  refine lv_aload_n hx hb dX0_wipe_5 rfl (lv_at hl 0 rfl) ?_
  refine lv_iconst (v := 0) hx hb dX0_wipe_6 (by decide) ?_
  refine va_put (D := (dC, dI)) (ci := 0) (v := .int 0) (ty := .int) (C := RX0) (T := TX0) (N := 13) hx hb hts (fun w h => List.mem_cons_of_mem _ (jnGA_X0 w h)) tyX0 tyX0_ok nmX0 hown hK hP hD hS 0 rfl rfl 1 (by decide) (hts _ (List.mem_cons_of_mem _ mGA_165)) (fun _ h9 => h9) rfl (by decide +kernel) rfl rfl (Nat.le_of_ble_eq_true rfl) dX0_wipe_7 (fun H locs hP hD hS => ?_)
  have hP : va_P (dC, dI) vwCl [(h0, .inr (0, [.int 0, .int 0, .int 0, .int 0, .int 0, .int 0, .int 0, .int 0, .int 0, .int 0, .ref (r 17), .ref (r 18), .ref (r 19)]))] H := hP
  have hD : va_D A [(h0, .inr (0, [.int 0, .int 0, .int 0, .int 0, .int 0, .int 0, .int 0, .int 0, .int 0, .int 0, .ref (r 17), .ref (r 18), .ref (r 19)]))] := hD
  refine lv_aload_n hx hb dX0_wipe_10 rfl (lv_at hl 0 rfl) ?_
  refine lv_iconst (v := 0) hx hb dX0_wipe_11 (by decide) ?_
  refine va_put (D := (dC, dI)) (ci := 0) (v := .int 0) (ty := .int) (C := RX0) (T := TX0) (N := 13) hx hb hts (fun w h => List.mem_cons_of_mem _ (jnGA_X0 w h)) tyX0 tyX0_ok nmX0 hown hK hP hD hS 0 rfl rfl 2 (by decide) (hts _ (List.mem_cons_of_mem _ mGA_166)) (fun _ h9 => h9) rfl (by decide +kernel) rfl rfl (Nat.le_of_ble_eq_true rfl) dX0_wipe_12 (fun H locs hP hD hS => ?_)
  have hP : va_P (dC, dI) vwCl [(h0, .inr (0, [.int 0, .int 0, .int 0, .int 0, .int 0, .int 0, .int 0, .int 0, .int 0, .int 0, .ref (r 17), .ref (r 18), .ref (r 19)]))] H := hP
  have hD : va_D A [(h0, .inr (0, [.int 0, .int 0, .int 0, .int 0, .int 0, .int 0, .int 0, .int 0, .int 0, .int 0, .ref (r 17), .ref (r 18), .ref (r 19)]))] := hD
  refine lv_aload_n hx hb dX0_wipe_15 rfl (lv_at hl 0 rfl) ?_
  refine lv_iconst (v := 0) hx hb dX0_wipe_16 (by decide) ?_
  refine va_put (D := (dC, dI)) (ci := 0) (v := .int 0) (ty := .int) (C := RX0) (T := TX0) (N := 13) hx hb hts (fun w h => List.mem_cons_of_mem _ (jnGA_X0 w h)) tyX0 tyX0_ok nmX0 hown hK hP hD hS 0 rfl rfl 3 (by decide) (hts _ (List.mem_cons_of_mem _ mGA_167)) (fun _ h9 => h9) rfl (by decide +kernel) rfl rfl (Nat.le_of_ble_eq_true rfl) dX0_wipe_17 (fun H locs hP hD hS => ?_)
  have hP : va_P (dC, dI) vwCl [(h0, .inr (0, [.int 0, .int 0, .int 0, .int 0, .int 0, .int 0, .int 0, .int 0, .int 0, .int 0, .ref (r 17), .ref (r 18), .ref (r 19)]))] H := hP
  have hD : va_D A [(h0, .inr (0, [.int 0, .int 0, .int 0, .int 0, .int 0, .int 0, .int 0, .int 0, .int 0, .int 0, .ref (r 17), .ref (r 18), .ref (r 19)]))] := hD
  refine lv_aload_n hx hb dX0_wipe_20 rfl (lv_at hl 0 rfl) ?_
  refine lv_iconst (v := 0) hx hb dX0_wipe_21 (by decide) ?_
  refine va_put (D := (dC, dI)) (ci := 0) (v := .int 0) (ty := .boolean) (C := RX0) (T := TX0) (N := 13) hx hb hts (fun w h => List.mem_cons_of_mem _ (jnGA_X0 w h)) tyX0 tyX0_ok nmX0 hown hK hP hD hS 0 rfl rfl 4 (by decide) (hts _ (List.mem_cons_of_mem _ mGA_168)) (fun _ h9 => h9) rfl (by decide +kernel) rfl rfl (Nat.le_of_ble_eq_true rfl) dX0_wipe_22 (fun H locs hP hD hS => ?_)
  have hP : va_P (dC, dI) vwCl [(h0, .inr (0, [.int 0, .int 0, .int 0, .int 0, .int 0, .int 0, .int 0, .int 0, .int 0, .int 0, .ref (r 17), .ref (r 18), .ref (r 19)]))] H := hP
  have hD : va_D A [(h0, .inr (0, [.int 0, .int 0, .int 0, .int 0, .int 0, .int 0, .int 0, .int 0, .int 0, .int 0, .ref (r 17), .ref (r 18), .ref (r 19)]))] := hD
  refine lv_aload_n hx hb dX0_wipe_25 rfl (lv_at hl 0 rfl) ?_
  refine lv_iconst (v := 0) hx hb dX0_wipe_26 (by decide) ?_
  refine va_put (D := (dC, dI)) (ci := 0) (v := .int 0) (ty := .int) (C := RX0) (T := TX0) (N := 13) hx hb hts (fun w h => List.mem_cons_of_mem _ (jnGA_X0 w h)) tyX0 tyX0_ok nmX0 hown hK hP hD hS 0 rfl rfl 5 (by decide) (hts _ (List.mem_cons_of_mem _ mGA_169)) (fun _ h9 => h9) rfl (by decide +kernel) rfl rfl (Nat.le_of_ble_eq_true rfl) dX0_wipe_27 (fun H locs hP hD hS => ?_)
  have hP : va_P (dC, dI) vwCl [(h0, .inr (0, [.int 0, .int 0, .int 0, .int 0, .int 0, .int 0, .int 0, .int 0, .int 0, .int 0, .ref (r 17), .ref (r 18), .ref (r 19)]))] H := hP
  have hD : va_D A [(h0, .inr (0, [.int 0, .int 0, .int 0, .int 0, .int 0, .int 0, .int 0, .int 0, .int 0, .int 0, .ref (r 17), .ref (r 18), .ref (r 19)]))] := hD
  refine lv_aload_n hx hb dX0_wipe_30 rfl (lv_at hl 0 rfl) ?_
  refine lv_iconst (v := 0) hx hb dX0_wipe_31 (by decide) ?_
  refine va_put (D := (dC, dI)) (ci := 0) (v := .int 0) (ty := .int) (C := RX0) (T := TX0) (N := 13) hx hb hts (fun w h => List.mem_cons_of_mem _ (jnGA_X0 w h)) tyX0 tyX0_ok nmX0 hown hK hP hD hS 0 rfl rfl 6 (by decide) (hts _ (List.mem_cons_of_mem _ mGA_170)) (fun _ h9 => h9) rfl (by decide +kernel) rfl rfl (Nat.le_of_ble_eq_true rfl) dX0_wipe_32 (fun H locs hP hD hS => ?_)
  have hP : va_P (dC, dI) vwCl [(h0, .inr (0, [.int 0, .int 0, .int 0, .int 0, .int 0, .int 0, .int 0, .int 0, .int 0, .int 0, .ref (r 17), .ref (r 18), .ref (r 19)]))] H := hP
  have hD : va_D A [(h0, .inr (0, [.int 0, .int 0, .int 0, .int 0, .int 0, .int 0, .int 0, .int 0, .int 0, .int 0, .ref (r 17), .ref (r 18), .ref (r 19)]))] := hD
  refine lv_aload_n hx hb dX0_wipe_35 rfl (lv_at hl 0 rfl) ?_
  refine lv_iconst (v := 0) hx hb dX0_wipe_36 (by decide) ?_
  refine va_put (D := (dC, dI)) (ci := 0) (v := .int 0) (ty := .int) (C := RX0) (T := TX0) (N := 13) hx hb hts (fun w h => List.mem_cons_of_mem _ (jnGA_X0 w h)) tyX0 tyX0_ok nmX0 hown hK hP hD hS 0 rfl rfl 7 (by decide) (hts _ (List.mem_cons_of_mem _ mGA_171)) (fun _ h9 => h9) rfl (by decide +kernel) rfl rfl (Nat.le_of_ble_eq_true rfl) dX0_wipe_37 (fun H locs hP hD hS => ?_)
  have hP : va_P (dC, dI) vwCl [(h0, .inr (0, [.int 0, .int 0, .int 0, .int 0, .int 0, .int 0, .int 0, .int 0, .int 0, .int 0, .ref (r 17), .ref (r 18), .ref (r 19)]))] H := hP
  have hD : va_D A [(h0, .inr (0, [.int 0, .int 0, .int 0, .int 0, .int 0, .int 0, .int 0, .int 0, .int 0, .int 0, .ref (r 17), .ref (r 18), .ref (r 19)]))] := hD
  refine lv_aload_n hx hb dX0_wipe_40 rfl (lv_at hl 0 rfl) ?_
  refine lv_iconst (v := 0) hx hb dX0_wipe_41 (by decide) ?_
  refine va_put (D := (dC, dI)) (ci := 0) (v := .int 0) (ty := .int) (C := RX0) (T := TX0) (N := 13) hx hb hts (fun w h => List.mem_cons_of_mem _ (jnGA_X0 w h)) tyX0 tyX0_ok nmX0 hown hK hP hD hS 0 rfl rfl 8 (by decide) (hts _ (List.mem_cons_of_mem _ mGA_172)) (fun _ h9 => h9) rfl (by decide +kernel) rfl rfl (Nat.le_of_ble_eq_true rfl) dX0_wipe_42 (fun H locs hP hD hS => ?_)
  have hP : va_P (dC, dI) vwCl [(h0, .inr (0, [.int 0, .int 0, .int 0, .int 0, .int 0, .int 0, .int 0, .int 0, .int 0, .int 0, .ref (r 17), .ref (r 18), .ref (r 19)]))] H := hP
  have hD : va_D A [(h0, .inr (0, [.int 0, .int 0, .int 0, .int 0, .int 0, .int 0, .int 0, .int 0, .int 0, .int 0, .ref (r 17), .ref (r 18), .ref (r 19)]))] := hD
  refine lv_aload_n hx hb dX0_wipe_45 rfl (lv_at hl 0 rfl) ?_
  refine lv_iconst (v := 0) hx hb dX0_wipe_46 (by decide) ?_
  refine va_put (D := (dC, dI)) (ci := 0) (v := .int 0) (ty := .int) (C := RX0) (T := TX0) (N := 13) hx hb hts (fun w h => List.mem_cons_of_mem _ (jnGA_X0 w h)) tyX0 tyX0_ok nmX0 hown hK hP hD hS 0 rfl rfl 9 (by decide) (hts _ (List.mem_cons_of_mem _ mGA_173)) (fun _ h9 => h9) rfl (by decide +kernel) rfl rfl (Nat.le_of_ble_eq_true rfl) dX0_wipe_47 (fun H locs hP hD hS => ?_)
  have hP : va_P (dC, dI) vwCl [(h0, .inr (0, [.int 0, .int 0, .int 0, .int 0, .int 0, .int 0, .int 0, .int 0, .int 0, .int 0, .ref (r 17), .ref (r 18), .ref (r 19)]))] H := hP
  have hD : va_D A [(h0, .inr (0, [.int 0, .int 0, .int 0, .int 0, .int 0, .int 0, .int 0, .int 0, .int 0, .int 0, .ref (r 17), .ref (r 18), .ref (r 19)]))] := hD
  have hP9 := hP.sub (ws' := [(h0, .inr (0, [.int 0, .int 0, .int 0, .int 0, .int 0, .int 0, .int 0, .int 0, .int 0, .int 0, .ref (r 17), .ref (r 18), .ref (r 19)]))]) [0] rfl
  have hD9 := hD.sub (ws' := [(h0, .inr (0, [.int 0, .int 0, .int 0, .int 0, .int 0, .int 0, .int 0, .int 0, .int 0, .int 0, .ref (r 17), .ref (r 18), .ref (r 19)]))]) [0] (by decide) rfl
  have hK9 := hK.sub (tys' := []) [] rfl
  exact W.vret hx hb hr (fun t ht hW => ⟨⟨(), rfl, trivial, by rw [ht]; exact hP9, va_K.moved hW.alike hK9, hD9⟩, hS.F ht⟩) hS.2.2 dX0_wipe_50
theorem dX6_byteAt_0 : decode cX6_byteAt 0 = .ok (.iload_n 1, 1) := by decide +kernel
theorem dX6_byteAt_1 : decode cX6_byteAt 1 = .ok (.ifCond .lt 26, 3) := by decide +kernel
theorem dX6_byteAt_4 : decode cX6_byteAt 4 = .ok (.iload_n 1, 1) := by decide +kernel
theorem dX6_byteAt_5 : decode cX6_byteAt 5 = .ok (.aload_n 0, 1) := by decide +kernel
theorem dX6_byteAt_6 : decode cX6_byteAt 6 = .ok (.getfield 12, 3) := by decide +kernel
theorem dX6_byteAt_9 : decode cX6_byteAt 9 = .ok (.getfield 205, 3) := by decide +kernel
theorem dX6_byteAt_12 : decode cX6_byteAt 12 = .ok (.if_icmp .ge 15, 3) := by decide +kernel
theorem dX6_byteAt_27 : decode cX6_byteAt 27 = .ok (.iconst (-1), 1) := by decide +kernel
theorem dX6_byteAt_28 : decode cX6_byteAt 28 = .ok (.ireturn, 1) := by decide +kernel
set_option maxHeartbeats 4000000 in
set_option maxRecDepth 100000 in
theorem fX6_byteAt (l : Launch) (dC : Nat → ClassId) (dI : Nat → Nat → Nat) (h0 : Nat) (r : Nat → Nat) : Met l yX6_byteAt (.code yX6_byteAt cX6_byteAt 2 (some .int) :: wsGA) ({ frames := 0, cells := 0, slots := 0, locals := 0 }) (va_Pc [.ref h0, .int 0] (fun U => va_P (dC, dI) vwCl [(h0, .inr (6, fsR r)), ((r 11), .inr (10, fsT r))] U.heap ∧ va_K (dC, dI) vwCl [] U)) (va_Qi (fun (r : Int32) (u : Unit) => r = (-1)) (fun _ _ => True) (fun _ => False)) 0 0 (fun _ => False) := by
  refine Met.ofW (cc := cX6_byteAt) (maxL := 2) (ret := (some .int)) (by decide) rfl ?_
  intro p e s m args below meth c s₁ B hml hv
  obtain ⟨rfl, hP, hK⟩ := hv
  have hx := B.exec
  have hb := B.bytes
  have hr := B.returns
  have hts := atoms_spec (ws := (.code yX6_byteAt cX6_byteAt 2 (some .int) :: wsGA)) B.pre
  have hown : s.vm.findClass RX6 = some m.cls := findClass_of_methodNamed B.named
  have hlocks := B.notSynchronized
  have hS : va_S (fun _ => False) s.heap s.heap [] := va_S.rf
  have hl := lv_entry ([.ref h0, .int 0]) (n := 2) (Nat.le_of_ble_eq_true rfl)
  rw [lg_entry_eq]
  generalize (lg_sl ([.ref h0, .int 0]) ++ List.replicate (2 - (lg_sl ([.ref h0, .int 0])).length) Slot.unset).toArray = ls at hl ⊢
  have hl : lv_has ls 2 [(0, .ref h0), (1, .int 0)] := hl
  refine lv_iload_n hx hb dX6_byteAt_0 rfl (lv_at hl 1 rfl) ?_
  refine lv_if_lt (tgt := 27) hx hb dX6_byteAt_1 (by decide) (fun c_1 => absurd c_1 (by decide)) (fun c_1 => ?_)
  refine lv_iload_n hx hb dX6_byteAt_4 rfl (lv_at hl 1 rfl) ?_
  refine lv_aload_n hx hb dX6_byteAt_5 rfl (lv_at hl 0 rfl) ?_
  refine va_get (D := (dC, dI)) (ci := 6) (v := .ref (r 11)) (C := RX6) (T := TX6) (N := 7) hx hb hts (fun w h => List.mem_cons_of_mem _ (jnGA_X6 w h)) hown hK hP 0 rfl rfl 0 (by decide) (hts _ (List.mem_cons_of_mem _ mGA_105)) (fun _ h9 => h9) rfl dX6_byteAt_6 ?_
  refine va_get (D := (dC, dI)) (ci := 10) (v := .int 0) (C := RX10) (T := TX10) (N := 2) hx hb hts (fun w h => List.mem_cons_of_mem _ (jnGA_X10 w h)) hown hK hP 1 rfl rfl 1 (by decide) (hts _ (List.mem_cons_of_mem _ mGA_174)) (fun _ h9 => h9) rfl dX6_byteAt_9 ?_
  refine lv_icmp_ge (tgt := 27) hx hb dX6_byteAt_12 (by decide) (fun c_2 => ?_) (fun c_2 => absurd (by decide) c_2)
  refine lv_iconst (v := (-1)) hx hb dX6_byteAt_27 (by decide) ?_
  exact W.iret (v := (-1)) hx hb hr (fun t ht hW => ⟨⟨(-1), (), rfl, rfl, trivial⟩, hS.F ht⟩) hS.2.2 dX6_byteAt_28
theorem dX6_step_0 : decode cX6_step 0 = .ok (.aload_n 0, 1) := by decide +kernel
theorem dX6_step_1 : decode cX6_step 1 = .ok (.getfield 25, 3) := by decide +kernel
theorem dX6_step_4 : decode cX6_step 4 = .ok (.ifCond .eq 4, 3) := by decide +kernel
theorem dX6_step_8 : decode cX6_step 8 = .ok (.aload_n 0, 1) := by decide +kernel
theorem dX6_step_9 : decode cX6_step 9 = .ok (.aload_n 0, 1) := by decide +kernel
theorem dX6_step_10 : decode cX6_step 10 = .ok (.getfield 38, 3) := by decide +kernel
theorem dX6_step_13 : decode cX6_step 13 = .ok (.putfield 35, 3) := by decide +kernel
theorem dX6_step_16 : decode cX6_step 16 = .ok (.aload_n 0, 1) := by decide +kernel
theorem dX6_step_17 : decode cX6_step 17 = .ok (.getfield 35, 3) := by decide +kernel
theorem dX6_step_20 : decode cX6_step 20 = .ok (.aload_n 0, 1) := by decide +kernel
theorem dX6_step_21 : decode cX6_step 21 = .ok (.getfield 12, 3) := by decide +kernel
theorem dX6_step_24 : decode cX6_step 24 = .ok (.getfield 205, 3) := by decide +kernel
theorem dX6_step_27 : decode cX6_step 27 = .ok (.if_icmp .ge 30, 3) := by decide +kernel
theorem dX6_step_57 : decode cX6_step 57 = .ok (.aload_n 0, 1) := by decide +kernel
theorem dX6_step_58 : decode cX6_step 58 = .ok (.aload_n 0, 1) := by decide +kernel
theorem dX6_step_59 : decode cX6_step 59 = .ok (.getfield 35, 3) := by decide +kernel
theorem dX6_step_62 : decode cX6_step 62 = .ok (.putfield 38, 3) := by decide +kernel
theorem dX6_step_65 : decode cX6_step 65 = .ok (.aload_n 0, 1) := by decide +kernel
theorem dX6_step_66 : decode cX6_step 66 = .ok (.aload_n 0, 1) := by decide +kernel
theorem dX6_step_67 : decode cX6_step 67 = .ok (.getfield 35, 3) := by decide +kernel
theorem dX6_step_70 : decode cX6_step 70 = .ok (.invokevirtual 181, 3) := by decide +kernel
theorem dX6_step_73 : decode cX6_step 73 = .ok (.istore_n 1, 1) := by decide +kernel
theorem dX6_step_74 : decode cX6_step 74 = .ok (.aload_n 0, 1) := by decide +kernel
theorem dX6_step_75 : decode cX6_step 75 = .ok (.getfield 35, 3) := by decide +kernel
theorem dX6_step_78 : decode cX6_step 78 = .ok (.aload_n 0, 1) := by decide +kernel
theorem dX6_step_79 : decode cX6_step 79 = .ok (.getfield 12, 3) := by decide +kernel
theorem dX6_step_82 : decode cX6_step 82 = .ok (.getfield 205, 3) := by decide +kernel
theorem dX6_step_85 : decode cX6_step 85 = .ok (.if_icmp .lt 11, 3) := by decide +kernel
theorem dX6_step_88 : decode cX6_step 88 = .ok (.aload_n 0, 1) := by decide +kernel
theorem dX6_step_89 : decode cX6_step 89 = .ok (.iconst 0, 1) := by decide +kernel
theorem dX6_step_90 : decode cX6_step 90 = .ok (.putfield 32, 3) := by decide +kernel
theorem dX6_step_93 : decode cX6_step 93 = .ok (.goto 134, 3) := by decide +kernel
theorem dX6_step_227 : decode cX6_step 227 = .ok (.return_, 1) := by decide +kernel
set_option maxHeartbeats 4000000 in
set_option maxRecDepth 100000 in
theorem fX6_step (l : Launch) (dC : Nat → ClassId) (dI : Nat → Nat → Nat) (sz : Nat) (h0 : Nat) (r : Nat → Nat) : Met l yX6_step (.code yX6_step cX6_step 2 none :: wsGA) ({ frames := 1, cells := 0, slots := 0, locals := 21 }) (va_Pc [.ref h0] (fun U => U.heap.size = sz ∧ va_P (dC, dI) vwCl [(h0, .inr (6, fsR r)), ((r 11), .inr (10, fsT r))] U.heap ∧ va_K (dC, dI) vwCl [] U ∧ va_D (fun _ => True) [(h0, .inr (6, fsR r)), ((r 11), .inr (10, fsT r))])) (va_Qv (fun (u : Unit) => True) (fun _ t => va_P (dC, dI) vwCl [(h0, .inr (6, fsR r)), ((r 11), .inr (10, fsT r))] t.heap ∧ va_K (dC, dI) vwCl [] t ∧ va_D (va_A [(h0, .inr (6, fsR r)), ((r 11), .inr (10, fsT r))] sz) [(h0, .inr (6, fsR r)), ((r 11), .inr (10, fsT r))]) (va_A [(h0, .inr (6, fsR r)), ((r 11), .inr (10, fsT r))] sz)) 0 0 (va_A [(h0, .inr (6, fsR r)), ((r 11), .inr (10, fsT r))] sz) := by
  refine Met.ofW (cc := cX6_step) (maxL := 2) (ret := none) (by decide) rfl ?_
  intro p e s m args below meth c s₁ B hml hv
  obtain ⟨rfl, hsz, hP, hK, hD0⟩ := hv
  have hx := B.exec
  have hb := B.bytes
  have hr := B.returns
  have hts := atoms_spec (ws := (.code yX6_step cX6_step 2 none :: wsGA)) B.pre
  have hown : s.vm.findClass RX6 = some m.cls := findClass_of_methodNamed B.named
  have hlocks := B.notSynchronized
  subst hsz
  have hD := hD0.self (sz := s.heap.size)
  generalize hAe : va_A [(h0, .inr (6, fsR r)), ((r 11), .inr (10, fsT r))] s.heap.size = A at hD ⊢
  have hA : ∀ q : Nat, s.heap.size ≤ q → A q := fun q h => by rw [← hAe]; exact Or.inr h
  have hS : va_S A s.heap s.heap [] := va_S.rf
  have hl := lv_entry ([.ref h0]) (n := 2) (Nat.le_of_ble_eq_true rfl)
  rw [lg_entry_eq]
  generalize (lg_sl ([.ref h0]) ++ List.replicate (2 - (lg_sl ([.ref h0])).length) Slot.unset).toArray = ls at hl ⊢
  have hl : lv_has ls 2 [(0, .ref h0)] := hl
  refine lv_aload_n hx hb dX6_step_0 rfl (lv_at hl 0 rfl) ?_
  refine va_get (D := (dC, dI)) (ci := 6) (v := .int 0) (C := RX6) (T := TX6) (N := 7) hx hb hts (fun w h => List.mem_cons_of_mem _ (jnGA_X6 w h)) hown hK hP 0 rfl rfl 2 (by decide) (hts _ (List.mem_cons_of_mem _ mGA_113)) (fun _ h9 => h9) rfl dX6_step_1 ?_
  refine lv_if_eq (tgt := 8) hx hb dX6_step_4 (by decide) (fun c_1 => ?_) (fun c_1 => absurd (by decide) c_1)
  refine lv_aload_n hx hb dX6_step_8 rfl (lv_at hl 0 rfl) ?_
  refine lv_aload_n hx hb dX6_step_9 rfl (lv_at hl 0 rfl) ?_
  refine va_get (D := (dC, dI)) (ci := 6) (v := .int 0) (C := RX6) (T := TX6) (N := 7) hx hb hts (fun w h => List.mem_cons_of_mem _ (jnGA_X6 w h)) hown hK hP 0 rfl rfl 6 (by decide) (hts _ (List.mem_cons_of_mem _ mGA_117)) (fun _ h9 => h9) rfl dX6_step_10 ?_
  refine va_put (D := (dC, dI)) (ci := 6) (v := .int 0) (ty := .int) (C := RX6) (T := TX6) (N := 7) hx hb hts (fun w h => List.mem_cons_of_mem _ (jnGA_X6 w h)) tyX6 tyX6_ok nmX6 hown hK hP hD hS 0 rfl rfl 5 (by decide) (hts _ (List.mem_cons_of_mem _ mGA_116)) (fun _ h9 => h9) rfl (by decide +kernel) rfl rfl (Nat.le_of_ble_eq_true rfl) dX6_step_13 (fun H locs hP hD hS => ?_)
  have hP : va_P (dC, dI) vwCl [(h0, .inr (6, [.ref (r 11), .ref (r 12), .int 0, .int (-1), .int 0, .int 0, .int 0])), ((r 11), .inr (10, fsT r))] H := hP
  have hD : va_D A [(h0, .inr (6, [.ref (r 11), .ref (r 12), .int 0, .int (-1), .int 0, .int 0, .int 0])), ((r 11), .inr (10, fsT r))] := hD
  refine lv_aload_n hx hb dX6_step_16 rfl (lv_at hl 0 rfl) ?_
  refine va_get (D := (dC, dI)) (ci := 6) (v := .int 0) (C := RX6) (T := TX6) (N := 7) hx hb hts (fun w h => List.mem_cons_of_mem _ (jnGA_X6 w h)) hown hK hP 0 rfl rfl 5 (by decide) (hts _ (List.mem_cons_of_mem _ mGA_116)) (fun _ h9 => h9) rfl dX6_step_17 ?_
  refine lv_aload_n hx hb dX6_step_20 rfl (lv_at hl 0 rfl) ?_
  refine va_get (D := (dC, dI)) (ci := 6) (v := .ref (r 11)) (C := RX6) (T := TX6) (N := 7) hx hb hts (fun w h => List.mem_cons_of_mem _ (jnGA_X6 w h)) hown hK hP 0 rfl rfl 0 (by decide) (hts _ (List.mem_cons_of_mem _ mGA_105)) (fun _ h9 => h9) rfl dX6_step_21 ?_
  refine va_get (D := (dC, dI)) (ci := 10) (v := .int 0) (C := RX10) (T := TX10) (N := 2) hx hb hts (fun w h => List.mem_cons_of_mem _ (jnGA_X10 w h)) hown hK hP 1 rfl rfl 1 (by decide) (hts _ (List.mem_cons_of_mem _ mGA_174)) (fun _ h9 => h9) rfl dX6_step_24 ?_
  refine lv_icmp_ge (tgt := 57) hx hb dX6_step_27 (by decide) (fun c_2 => ?_) (fun c_2 => absurd (by decide) c_2)
  refine lv_aload_n hx hb dX6_step_57 rfl (lv_at hl 0 rfl) ?_
  refine lv_aload_n hx hb dX6_step_58 rfl (lv_at hl 0 rfl) ?_
  refine va_get (D := (dC, dI)) (ci := 6) (v := .int 0) (C := RX6) (T := TX6) (N := 7) hx hb hts (fun w h => List.mem_cons_of_mem _ (jnGA_X6 w h)) hown hK hP 0 rfl rfl 5 (by decide) (hts _ (List.mem_cons_of_mem _ mGA_116)) (fun _ h9 => h9) rfl dX6_step_59 ?_
  refine va_put (D := (dC, dI)) (ci := 6) (v := .int 0) (ty := .int) (C := RX6) (T := TX6) (N := 7) hx hb hts (fun w h => List.mem_cons_of_mem _ (jnGA_X6 w h)) tyX6 tyX6_ok nmX6 hown hK hP hD hS 0 rfl rfl 6 (by decide) (hts _ (List.mem_cons_of_mem _ mGA_117)) (fun _ h9 => h9) rfl (by decide +kernel) rfl rfl (Nat.le_of_ble_eq_true rfl) dX6_step_62 (fun H locs hP hD hS => ?_)
  have hP : va_P (dC, dI) vwCl [(h0, .inr (6, [.ref (r 11), .ref (r 12), .int 0, .int (-1), .int 0, .int 0, .int 0])), ((r 11), .inr (10, fsT r))] H := hP
  have hD : va_D A [(h0, .inr (6, [.ref (r 11), .ref (r 12), .int 0, .int (-1), .int 0, .int 0, .int 0])), ((r 11), .inr (10, fsT r))] := hD
  refine lv_aload_n hx hb dX6_step_65 rfl (lv_at hl 0 rfl) ?_
  refine lv_aload_n hx hb dX6_step_66 rfl (lv_at hl 0 rfl) ?_
  refine va_get (D := (dC, dI)) (ci := 6) (v := .int 0) (C := RX6) (T := TX6) (N := 7) hx hb hts (fun w h => List.mem_cons_of_mem _ (jnGA_X6 w h)) hown hK hP 0 rfl rfl 5 (by decide) (hts _ (List.mem_cons_of_mem _ mGA_116)) (fun _ h9 => h9) rfl dX6_step_67 ?_
  have hPc := hP.sub (ws' := [(h0, .inr (6, [.ref (r 11), .ref (r 12), .int 0, .int (-1), .int 0, .int 0, .int 0])), ((r 11), .inr (10, fsT r))]) [0, 1] rfl
  have hKc := hK.sub (tys' := []) [] rfl
  refine va_calli (va_runV (As := [.int 0]) (rest := []) ⟨hx, hb, hml, hown, hts⟩ (fX6_byteAt l dC dI h0 r) (cwV 1 hts (gz_gV mGA_176 mGA_177 mGA_178 mGA_121 mGA_175 goodGA) rfl rfl rfl (by decide +kernel) ⟨Nat.le_of_ble_eq_true rfl, Nat.le_of_ble_eq_true rfl⟩) ⟨fun a U g mk q => by obtain ⟨q0, qP, qK⟩ := q; exact ⟨q0, qP, va_K.moved (u := U) (U := U.calling g mk a) (Vm.Alike.refl U.vm) qK⟩, va_recv hKc hPc (ci := 6) (q0 := 0) rfl rfl, fun U hU hW => ⟨rfl, by rw [hU]; exact hPc, va_K.moved hW.alike hKc⟩⟩ rfl rfl hl.1 rfl (lv_room (Nat.le_of_ble_eq_true rfl)) dX6_step_70 ⟨Nat.le_of_ble_eq_true rfl, Nat.le_of_ble_eq_true rfl⟩) hS (fun q _ h => h.elim) (fun q h => h.elim) (fun r_3 u t H1 locs ht hvm hw hB hz1 hk1 hS => ?_)
  have hP := gz_keep hP hk1
  generalize H1 = H at hP hS ⊢
  subst hw
  refine lv_istore_n (lv' := [(1, .int (-1)), (0, .ref h0)]) hx hb dX6_step_73 rfl hl (by decide) rfl (fun ls hl => ?_)
  refine lv_aload_n hx hb dX6_step_74 rfl (lv_at hl 1 rfl) ?_
  refine va_get (D := (dC, dI)) (ci := 6) (v := .int 0) (C := RX6) (T := TX6) (N := 7) hx hb hts (fun w h => List.mem_cons_of_mem _ (jnGA_X6 w h)) hown hK hP 0 rfl rfl 5 (by decide) (hts _ (List.mem_cons_of_mem _ mGA_116)) (fun _ h9 => h9) rfl dX6_step_75 ?_
  refine lv_aload_n hx hb dX6_step_78 rfl (lv_at hl 1 rfl) ?_
  refine va_get (D := (dC, dI)) (ci := 6) (v := .ref (r 11)) (C := RX6) (T := TX6) (N := 7) hx hb hts (fun w h => List.mem_cons_of_mem _ (jnGA_X6 w h)) hown hK hP 0 rfl rfl 0 (by decide) (hts _ (List.mem_cons_of_mem _ mGA_105)) (fun _ h9 => h9) rfl dX6_step_79 ?_
  refine va_get (D := (dC, dI)) (ci := 10) (v := .int 0) (C := RX10) (T := TX10) (N := 2) hx hb hts (fun w h => List.mem_cons_of_mem _ (jnGA_X10 w h)) hown hK hP 1 rfl rfl 1 (by decide) (hts _ (List.mem_cons_of_mem _ mGA_174)) (fun _ h9 => h9) rfl dX6_step_82 ?_
  refine lv_icmp_lt (tgt := 96) hx hb dX6_step_85 (by decide) (fun c_4 => absurd c_4 (by decide)) (fun c_4 => ?_)
  refine lv_aload_n hx hb dX6_step_88 rfl (lv_at hl 1 rfl) ?_
  refine lv_iconst (v := 0) hx hb dX6_step_89 (by decide) ?_
  refine va_put (D := (dC, dI)) (ci := 6) (v := .int 0) (ty := .int) (C := RX6) (T := TX6) (N := 7) hx hb hts (fun w h => List.mem_cons_of_mem _ (jnGA_X6 w h)) tyX6 tyX6_ok nmX6 hown hK hP hD hS 0 rfl rfl 4 (by decide) (hts _ (List.mem_cons_of_mem _ mGA_115)) (fun _ h9 => h9) rfl (by decide +kernel) rfl rfl (Nat.le_of_ble_eq_true rfl) dX6_step_90 (fun H locs hP hD hS => ?_)
  have hP : va_P (dC, dI) vwCl [(h0, .inr (6, [.ref (r 11), .ref (r 12), .int 0, .int (-1), .int 0, .int 0, .int 0])), ((r 11), .inr (10, fsT r))] H := hP
  have hD : va_D A [(h0, .inr (6, [.ref (r 11), .ref (r 12), .int 0, .int (-1), .int 0, .int 0, .int 0])), ((r 11), .inr (10, fsT r))] := hD
  refine lv_goto (tgt := 227) hx hb dX6_step_93 (by decide) ?_
  have hP9 := hP.sub (ws' := [(h0, .inr (6, [.ref (r 11), .ref (r 12), .int 0, .int (-1), .int 0, .int 0, .int 0])), ((r 11), .inr (10, fsT r))]) [0, 1] rfl
  have hD9 := hD.sub (ws' := [(h0, .inr (6, [.ref (r 11), .ref (r 12), .int 0, .int (-1), .int 0, .int 0, .int 0])), ((r 11), .inr (10, fsT r))]) [0, 1] (by decide) rfl
  have hK9 := hK.sub (tys' := []) [] rfl
  exact W.vret hx hb hr (fun t ht hW => ⟨⟨(), rfl, trivial, by rw [ht]; exact hP9, va_K.moved hW.alike hK9, hD9⟩, hS.F ht⟩) hS.2.2 dX6_step_227
theorem dX6_read_0 : decode cX6_read 0 = .ok (.aload_n 0, 1) := by decide +kernel
theorem dX6_read_1 : decode cX6_read 1 = .ok (.getfield 21, 3) := by decide +kernel
theorem dX6_read_4 : decode cX6_read 4 = .ok (.invokevirtual 41, 3) := by decide +kernel
theorem dX6_read_7 : decode cX6_read 7 = .ok (.aload_n 0, 1) := by decide +kernel
theorem dX6_read_8 : decode cX6_read 8 = .ok (.iconst 0, 1) := by decide +kernel
theorem dX6_read_9 : decode cX6_read 9 = .ok (.putfield 25, 3) := by decide +kernel
theorem dX6_read_12 : decode cX6_read 12 = .ok (.aload_n 0, 1) := by decide +kernel
theorem dX6_read_13 : decode cX6_read 13 = .ok (.iconst (-1), 1) := by decide +kernel
theorem dX6_read_14 : decode cX6_read 14 = .ok (.putfield 29, 3) := by decide +kernel
theorem dX6_read_17 : decode cX6_read 17 = .ok (.aload_n 0, 1) := by decide +kernel
theorem dX6_read_18 : decode cX6_read 18 = .ok (.iconst 0, 1) := by decide +kernel
theorem dX6_read_19 : decode cX6_read 19 = .ok (.putfield 38, 3) := by decide +kernel
theorem dX6_read_22 : decode cX6_read 22 = .ok (.aload_n 0, 1) := by decide +kernel
theorem dX6_read_23 : decode cX6_read 23 = .ok (.invokevirtual 44, 3) := by decide +kernel
theorem dX6_read_26 : decode cX6_read 26 = .ok (.iconst 0, 1) := by decide +kernel
theorem dX6_read_27 : decode cX6_read 27 = .ok (.istore_n 1, 1) := by decide +kernel
theorem dX6_read_28 : decode cX6_read 28 = .ok (.iload_n 1, 1) := by decide +kernel
theorem dX6_read_29 : decode cX6_read 29 = .ok (.sipush 1600, 3) := by decide +kernel
theorem dX6_read_32 : decode cX6_read 32 = .ok (.if_icmp .ge 27, 3) := by decide +kernel
theorem dX6_read_35 : decode cX6_read 35 = .ok (.aload_n 0, 1) := by decide +kernel
theorem dX6_read_36 : decode cX6_read 36 = .ok (.getfield 32, 3) := by decide +kernel
theorem dX6_read_39 : decode cX6_read 39 = .ok (.ifCond .eq 20, 3) := by decide +kernel
theorem dX6_read_59 : decode cX6_read 59 = .ok (.return_, 1) := by decide +kernel
set_option maxHeartbeats 4000000 in
set_option maxRecDepth 100000 in
theorem fX6_read (l : Launch) (dC : Nat → ClassId) (dI : Nat → Nat → Nat) (sz : Nat) (h0 : Nat) (r : Nat → Nat) : Met l yX6_read (.code yX6_read cX6_read 2 none :: wsGA) ({ frames := 2, cells := 0, slots := 0, locals := 42 }) (va_Pc [.ref h0] (fun U => U.heap.size = sz ∧ va_P (dC, dI) vwCl [(h0, .inr (6, fsR r)), ((r 11), .inr (10, fsT r)), ((r 12), .inr (0, fsD r))] U.heap ∧ va_K (dC, dI) vwCl [] U ∧ va_D (fun _ => True) [(h0, .inr (6, fsR r)), ((r 11), .inr (10, fsT r)), ((r 12), .inr (0, fsD r))])) (va_Qv (fun (u : Unit) => True) (fun _ t => va_P (dC, dI) vwCl [(h0, .inr (6, fsR r)), ((r 11), .inr (10, fsT r)), ((r 12), .inr (0, fsD r))] t.heap ∧ va_K (dC, dI) vwCl [] t ∧ va_D (va_A [(h0, .inr (6, fsR r)), ((r 11), .inr (10, fsT r)), ((r 12), .inr (0, fsD r))] sz) [(h0, .inr (6, fsR r)), ((r 11), .inr (10, fsT r)), ((r 12), .inr (0, fsD r))]) (va_A [(h0, .inr (6, fsR r)), ((r 11), .inr (10, fsT r)), ((r 12), .inr (0, fsD r))] sz)) 0 0 (va_A [(h0, .inr (6, fsR r)), ((r 11), .inr (10, fsT r)), ((r 12), .inr (0, fsD r))] sz) := by
  refine Met.ofW (cc := cX6_read) (maxL := 2) (ret := none) (by decide) rfl ?_
  intro p e s m args below meth c s₁ B hml hv
  obtain ⟨rfl, hsz, hP, hK, hD0⟩ := hv
  have hx := B.exec
  have hb := B.bytes
  have hr := B.returns
  have hts := atoms_spec (ws := (.code yX6_read cX6_read 2 none :: wsGA)) B.pre
  have hown : s.vm.findClass RX6 = some m.cls := findClass_of_methodNamed B.named
  have hlocks := B.notSynchronized
  subst hsz
  have hD := hD0.self (sz := s.heap.size)
  generalize hAe : va_A [(h0, .inr (6, fsR r)), ((r 11), .inr (10, fsT r)), ((r 12), .inr (0, fsD r))] s.heap.size = A at hD ⊢
  have hA : ∀ q : Nat, s.heap.size ≤ q → A q := fun q h => by rw [← hAe]; exact Or.inr h
  have hS : va_S A s.heap s.heap [] := va_S.rf
  have hl := lv_entry ([.ref h0]) (n := 2) (Nat.le_of_ble_eq_true rfl)
  rw [lg_entry_eq]
  generalize (lg_sl ([.ref h0]) ++ List.replicate (2 - (lg_sl ([.ref h0])).length) Slot.unset).toArray = ls at hl ⊢
  have hl : lv_has ls 2 [(0, .ref h0)] := hl
  refine lv_aload_n hx hb dX6_read_0 rfl (lv_at hl 0 rfl) ?_
  refine va_get (D := (dC, dI)) (ci := 6) (v := .ref (r 12)) (C := RX6) (T := TX6) (N := 7) hx hb hts (fun w h => List.mem_cons_of_mem _ (jnGA_X6 w h)) hown hK hP 0 rfl rfl 1 (by decide) (hts _ (List.mem_cons_of_mem _ mGA_112)) (fun _ h9 => h9) rfl dX6_read_1 ?_
  have hPc := hP.sub (ws' := [((r 12), .inr (0, fsD r))]) [2] rfl
  have hDc := hD.sub (ws' := [((r 12), .inr (0, fsD r))]) [2] (by decide) rfl
  have hKc := hK.sub (tys' := []) [] rfl
  have hFc := va_free (wc := [((r 12), .inr (0, fsD r))]) hD hS hA [2] rfl
  refine va_callv (va_runV (As := []) (rest := []) ⟨hx, hb, hml, hown, hts⟩ (fX0_wipe l dC dI s.heap.size (r 12) r) (cwV 0 hts (gz_gV mGA_180 mGA_181 mGA_182 mGA_108 mGA_179 goodGA) rfl rfl rfl (by decide +kernel) ⟨Nat.le_of_ble_eq_true rfl, Nat.le_of_ble_eq_true rfl⟩) ⟨fun a U g mk q => by obtain ⟨q0, q1, qP, qK, qD⟩ := q; exact ⟨q0, q1, qP, va_K.moved (u := U) (U := U.calling g mk a) (Vm.Alike.refl U.vm) qK, qD⟩, va_recv hKc hPc (ci := 0) (q0 := 0) rfl rfl, fun U hU hW => ⟨rfl, by rw [hU], by rw [hU]; exact hPc, va_K.moved hW.alike hKc, hDc.weaken (fun _ _ _ _ => trivial)⟩⟩ rfl rfl hl.1 rfl (lv_room (Nat.le_of_ble_eq_true rfl)) dX6_read_4 ⟨Nat.le_of_ble_eq_true rfl, Nat.le_of_ble_eq_true rfl⟩) hS (fun q _ h => hFc q h) hFc (fun  u t H1 locs ht hvm hw hB hz1 hk1 hS => ?_)
  obtain ⟨hP1, hK1, hD1⟩ := hB
  rw [ht] at hP1
  have hK1 := va_K.moved hvm.symm hK1
  obtain ⟨hP, hD⟩ := va_join (wr := [(h0, .inr (6, fsR r)), ((r 11), .inr (10, fsT r))]) (w1 := [((r 12), .inr (0, fsD r))]) hP hD [2] [0, 1] rfl rfl (by decide) (by decide) hk1 hFc hP1 hD1
  generalize H1 = H at hP hS ⊢
  have hP : va_P (dC, dI) vwCl [(h0, .inr (6, fsR r)), ((r 11), .inr (10, fsT r)), ((r 12), .inr (0, fsD r))] H := hP
  have hD : va_D A [(h0, .inr (6, fsR r)), ((r 11), .inr (10, fsT r)), ((r 12), .inr (0, fsD r))] := hD
  refine lv_aload_n hx hb dX6_read_7 rfl (lv_at hl 0 rfl) ?_
  refine lv_iconst (v := 0) hx hb dX6_read_8 (by decide) ?_
  refine va_put (D := (dC, dI)) (ci := 6) (v := .int 0) (ty := .int) (C := RX6) (T := TX6) (N := 7) hx hb hts (fun w h => List.mem_cons_of_mem _ (jnGA_X6 w h)) tyX6 tyX6_ok nmX6 hown hK hP hD hS 0 rfl rfl 2 (by decide) (hts _ (List.mem_cons_of_mem _ mGA_113)) (fun _ h9 => h9) rfl (by decide +kernel) rfl rfl (Nat.le_of_ble_eq_true rfl) dX6_read_9 (fun H locs hP hD hS => ?_)
  have hP : va_P (dC, dI) vwCl [(h0, .inr (6, [.ref (r 11), .ref (r 12), .int 0, .int (-1), .int 0, .int 0, .int 0])), ((r 11), .inr (10, fsT r)), ((r 12), .inr (0, fsD r))] H := hP
  have hD : va_D A [(h0, .inr (6, [.ref (r 11), .ref (r 12), .int 0, .int (-1), .int 0, .int 0, .int 0])), ((r 11), .inr (10, fsT r)), ((r 12), .inr (0, fsD r))] := hD
  refine lv_aload_n hx hb dX6_read_12 rfl (lv_at hl 0 rfl) ?_
  refine lv_iconst (v := (-1)) hx hb dX6_read_13 (by decide) ?_
  refine va_put (D := (dC, dI)) (ci := 6) (v := .int (-1)) (ty := .int) (C := RX6) (T := TX6) (N := 7) hx hb hts (fun w h => List.mem_cons_of_mem _ (jnGA_X6 w h)) tyX6 tyX6_ok nmX6 hown hK hP hD hS 0 rfl rfl 3 (by decide) (hts _ (List.mem_cons_of_mem _ mGA_114)) (fun _ h9 => h9) rfl (by decide +kernel) rfl rfl (Nat.le_of_ble_eq_true rfl) dX6_read_14 (fun H locs hP hD hS => ?_)
  have hP : va_P (dC, dI) vwCl [(h0, .inr (6, [.ref (r 11), .ref (r 12), .int 0, .int (-1), .int 0, .int 0, .int 0])), ((r 11), .inr (10, fsT r)), ((r 12), .inr (0, fsD r))] H := hP
  have hD : va_D A [(h0, .inr (6, [.ref (r 11), .ref (r 12), .int 0, .int (-1), .int 0, .int 0, .int 0])), ((r 11), .inr (10, fsT r)), ((r 12), .inr (0, fsD r))] := hD
  refine lv_aload_n hx hb dX6_read_17 rfl (lv_at hl 0 rfl) ?_
  refine lv_iconst (v := 0) hx hb dX6_read_18 (by decide) ?_
  refine va_put (D := (dC, dI)) (ci := 6) (v := .int 0) (ty := .int) (C := RX6) (T := TX6) (N := 7) hx hb hts (fun w h => List.mem_cons_of_mem _ (jnGA_X6 w h)) tyX6 tyX6_ok nmX6 hown hK hP hD hS 0 rfl rfl 6 (by decide) (hts _ (List.mem_cons_of_mem _ mGA_117)) (fun _ h9 => h9) rfl (by decide +kernel) rfl rfl (Nat.le_of_ble_eq_true rfl) dX6_read_19 (fun H locs hP hD hS => ?_)
  have hP : va_P (dC, dI) vwCl [(h0, .inr (6, [.ref (r 11), .ref (r 12), .int 0, .int (-1), .int 0, .int 0, .int 0])), ((r 11), .inr (10, fsT r)), ((r 12), .inr (0, fsD r))] H := hP
  have hD : va_D A [(h0, .inr (6, [.ref (r 11), .ref (r 12), .int 0, .int (-1), .int 0, .int 0, .int 0])), ((r 11), .inr (10, fsT r)), ((r 12), .inr (0, fsD r))] := hD
  refine lv_aload_n hx hb dX6_read_22 rfl (lv_at hl 0 rfl) ?_
  have hPc := hP.sub (ws' := [(h0, .inr (6, [.ref (r 11), .ref (r 12), .int 0, .int (-1), .int 0, .int 0, .int 0])), ((r 11), .inr (10, fsT r))]) [0, 1] rfl
  have hDc := hD.sub (ws' := [(h0, .inr (6, [.ref (r 11), .ref (r 12), .int 0, .int (-1), .int 0, .int 0, .int 0])), ((r 11), .inr (10, fsT r))]) [0, 1] (by decide) rfl
  have hKc := hK.sub (tys' := []) [] rfl
  have hFc := va_free (wc := [(h0, .inr (6, [.ref (r 11), .ref (r 12), .int 0, .int (-1), .int 0, .int 0, .int 0])), ((r 11), .inr (10, fsT r))]) hD hS hA [0, 1] rfl
  refine va_callv (va_runV (As := []) (rest := []) ⟨hx, hb, hml, hown, hts⟩ (fX6_step l dC dI H.size h0 r) (cwV 0 hts (gz_gV mGA_184 mGA_185 mGA_186 mGA_121 mGA_183 goodGA) rfl rfl rfl (by decide +kernel) ⟨Nat.le_of_ble_eq_true rfl, Nat.le_of_ble_eq_true rfl⟩) ⟨fun a U g mk q => by obtain ⟨q0, q1, qP, qK, qD⟩ := q; exact ⟨q0, q1, qP, va_K.moved (u := U) (U := U.calling g mk a) (Vm.Alike.refl U.vm) qK, qD⟩, va_recv hKc hPc (ci := 6) (q0 := 0) rfl rfl, fun U hU hW => ⟨rfl, by rw [hU], by rw [hU]; exact hPc, va_K.moved hW.alike hKc, hDc.weaken (fun _ _ _ _ => trivial)⟩⟩ rfl rfl hl.1 rfl (lv_room (Nat.le_of_ble_eq_true rfl)) dX6_read_23 ⟨Nat.le_of_ble_eq_true rfl, Nat.le_of_ble_eq_true rfl⟩) hS (fun q _ h => hFc q h) hFc (fun  u t H1 locs ht hvm hw hB hz1 hk1 hS => ?_)
  obtain ⟨hP1, hK1, hD1⟩ := hB
  rw [ht] at hP1
  have hK1 := va_K.moved hvm.symm hK1
  obtain ⟨hP, hD⟩ := va_join (wr := [((r 12), .inr (0, fsD r))]) (w1 := [(h0, .inr (6, fsR r)), ((r 11), .inr (10, fsT r))]) hP hD [0, 1] [2] rfl rfl (by decide) (by decide) hk1 hFc hP1 hD1
  generalize H1 = H at hP hS ⊢
  have hP : va_P (dC, dI) vwCl [((r 12), .inr (0, fsD r)), (h0, .inr (6, fsR r)), ((r 11), .inr (10, fsT r))] H := hP
  have hD : va_D A [((r 12), .inr (0, fsD r)), (h0, .inr (6, fsR r)), ((r 11), .inr (10, fsT r))] := hD
  refine lv_iconst (v := 0) hx hb dX6_read_26 (by decide) ?_
  refine lv_istore_n (lv' := [(1, .int 0), (0, .ref h0)]) hx hb dX6_read_27 rfl hl (by decide) rfl (fun ls hl => ?_)
  refine lv_iload_n hx hb dX6_read_28 rfl (lv_at hl 0 rfl) ?_
  refine lv_sipush (v := 1600) hx hb dX6_read_29 (by decide) ?_
  refine lv_icmp_ge (tgt := 59) hx hb dX6_read_32 (by decide) (fun c_3 => absurd c_3 (by decide)) (fun c_3 => ?_)
  refine lv_aload_n hx hb dX6_read_35 rfl (lv_at hl 1 rfl) ?_
  refine va_get (D := (dC, dI)) (ci := 6) (v := .int 0) (C := RX6) (T := TX6) (N := 7) hx hb hts (fun w h => List.mem_cons_of_mem _ (jnGA_X6 w h)) hown hK hP 1 rfl rfl 4 (by decide) (hts _ (List.mem_cons_of_mem _ mGA_115)) (fun _ h9 => h9) rfl dX6_read_36 ?_
  refine lv_if_eq (tgt := 59) hx hb dX6_read_39 (by decide) (fun c_4 => ?_) (fun c_4 => absurd (by decide) c_4)
  have hP9 := hP.sub (ws' := [(h0, .inr (6, fsR r)), ((r 11), .inr (10, fsT r)), ((r 12), .inr (0, fsD r))]) [1, 2, 0] rfl
  have hD9 := hD.sub (ws' := [(h0, .inr (6, fsR r)), ((r 11), .inr (10, fsT r)), ((r 12), .inr (0, fsD r))]) [1, 2, 0] (by decide) rfl
  have hK9 := hK.sub (tys' := []) [] rfl
  exact W.vret hx hb hr (fun t ht hW => ⟨⟨(), rfl, trivial, by rw [ht]; exact hP9, va_K.moved hW.alike hK9, hD9⟩, hS.F ht⟩) hS.2.2 dX6_read_59
theorem dX11_forget_0 : decode cX11_forget 0 = .ok (.aload_n 0, 1) := by decide +kernel
theorem dX11_forget_1 : decode cX11_forget 1 = .ok (.iconst 0, 1) := by decide +kernel
theorem dX11_forget_2 : decode cX11_forget 2 = .ok (.putfield 76, 3) := by decide +kernel
theorem dX11_forget_5 : decode cX11_forget 5 = .ok (.aload_n 0, 1) := by decide +kernel
theorem dX11_forget_6 : decode cX11_forget 6 = .ok (.iconst 0, 1) := by decide +kernel
theorem dX11_forget_7 : decode cX11_forget 7 = .ok (.putfield 83, 3) := by decide +kernel
theorem dX11_forget_10 : decode cX11_forget 10 = .ok (.aload_n 0, 1) := by decide +kernel
theorem dX11_forget_11 : decode cX11_forget 11 = .ok (.iconst 0, 1) := by decide +kernel
theorem dX11_forget_12 : decode cX11_forget 12 = .ok (.putfield 86, 3) := by decide +kernel
theorem dX11_forget_15 : decode cX11_forget 15 = .ok (.return_, 1) := by decide +kernel
set_option maxHeartbeats 4000000 in
set_option maxRecDepth 100000 in
theorem fX11_forget (l : Launch) (dC : Nat → ClassId) (dI : Nat → Nat → Nat) (sz : Nat) (h0 : Nat) (r : Nat → Nat) (al : Nat) : Met l yX11_forget (.code yX11_forget cX11_forget 1 none :: wsGA) ({ frames := 0, cells := 0, slots := 0, locals := 0 }) (va_Pc [.ref h0] (fun U => U.heap.size = sz ∧ va_P (dC, dI) vwCl [(h0, .inr (11, [.ref (r 0), .ref al, .ref (r 2), .ref (r 3), .ref (r 4), .ref (r 5), .ref (r 6), .ref (r 7), .ref (r 8), .ref (r 9), .ref (r 10), .int 0, .int 0, .int (-1), .int 0, .int 0]))] U.heap ∧ va_K (dC, dI) vwCl [] U ∧ va_D (fun _ => True) [(h0, .inr (11, [.ref (r 0), .ref al, .ref (r 2), .ref (r 3), .ref (r 4), .ref (r 5), .ref (r 6), .ref (r 7), .ref (r 8), .ref (r 9), .ref (r 10), .int 0, .int 0, .int (-1), .int 0, .int 0]))])) (va_Qv (fun (u : Unit) => True) (fun _ t => va_P (dC, dI) vwCl [(h0, .inr (11, [.ref (r 0), .ref al, .ref (r 2), .ref (r 3), .ref (r 4), .ref (r 5), .ref (r 6), .ref (r 7), .ref (r 8), .ref (r 9), .ref (r 10), .int 0, .int 0, .int (-1), .int 0, .int 0]))] t.heap ∧ va_K (dC, dI) vwCl [] t ∧ va_D (va_A [(h0, .inr (11, [.ref (r 0), .ref al, .ref (r 2), .ref (r 3), .ref (r 4), .ref (r 5), .ref (r 6), .ref (r 7), .ref (r 8), .ref (r 9), .ref (r 10), .int 0, .int 0, .int (-1), .int 0, .int 0]))] sz) [(h0, .inr (11, [.ref (r 0), .ref al, .ref (r 2), .ref (r 3), .ref (r 4), .ref (r 5), .ref (r 6), .ref (r 7), .ref (r 8), .ref (r 9), .ref (r 10), .int 0, .int 0, .int (-1), .int 0, .int 0]))]) (va_A [(h0, .inr (11, [.ref (r 0), .ref al, .ref (r 2), .ref (r 3), .ref (r 4), .ref (r 5), .ref (r 6), .ref (r 7), .ref (r 8), .ref (r 9), .ref (r 10), .int 0, .int 0, .int (-1), .int 0, .int 0]))] sz)) 0 0 (va_A [(h0, .inr (11, [.ref (r 0), .ref al, .ref (r 2), .ref (r 3), .ref (r 4), .ref (r 5), .ref (r 6), .ref (r 7), .ref (r 8), .ref (r 9), .ref (r 10), .int 0, .int 0, .int (-1), .int 0, .int 0]))] sz) := by
  refine Met.ofW (cc := cX11_forget) (maxL := 1) (ret := none) (by decide) rfl ?_
  intro p e s m args below meth c s₁ B hml hv
  obtain ⟨rfl, hsz, hP, hK, hD0⟩ := hv
  have hx := B.exec
  have hb := B.bytes
  have hr := B.returns
  have hts := atoms_spec (ws := (.code yX11_forget cX11_forget 1 none :: wsGA)) B.pre
  have hown : s.vm.findClass RX11 = some m.cls := findClass_of_methodNamed B.named
  have hlocks := B.notSynchronized
  subst hsz
  have hD := hD0.self (sz := s.heap.size)
  generalize hAe : va_A [(h0, .inr (11, [.ref (r 0), .ref al, .ref (r 2), .ref (r 3), .ref (r 4), .ref (r 5), .ref (r 6), .ref (r 7), .ref (r 8), .ref (r 9), .ref (r 10), .int 0, .int 0, .int (-1), .int 0, .int 0]))] s.heap.size = A at hD ⊢
  have hA : ∀ q : Nat, s.heap.size ≤ q → A q := fun q h => by rw [← hAe]; exact Or.inr h
  have hS : va_S A s.heap s.heap [] := va_S.rf
  have hl := lv_entry ([.ref h0]) (n := 1) (Nat.le_of_ble_eq_true rfl)
  rw [lg_entry_eq]
  generalize (lg_sl ([.ref h0]) ++ List.replicate (1 - (lg_sl ([.ref h0])).length) Slot.unset).toArray = ls at hl ⊢
  have hl : lv_has ls 1 [(0, .ref h0)] := hl
  refine lv_aload_n hx hb dX11_forget_0 rfl (lv_at hl 0 rfl) ?_
  refine lv_iconst (v := 0) hx hb dX11_forget_1 (by decide) ?_
  refine va_put (D := (dC, dI)) (ci := 11) (v := .int 0) (ty := .boolean) (C := RX11) (T := TX11) (N := 16) hx hb hts (fun w h => List.mem_cons_of_mem _ (jnGA_X11 w h)) tyX11 tyX11_ok nmX11 hown hK hP hD hS 0 rfl rfl 12 (by decide) (hts _ (List.mem_cons_of_mem _ mGA_156)) (fun _ h9 => h9) rfl (by decide +kernel) rfl rfl (Nat.le_of_ble_eq_true rfl) dX11_forget_2 (fun H locs hP hD hS => ?_)
  have hP : va_P (dC, dI) vwCl [(h0, .inr (11, [.ref (r 0), .ref al, .ref (r 2), .ref (r 3), .ref (r 4), .ref (r 5), .ref (r 6), .ref (r 7), .ref (r 8), .ref (r 9), .ref (r 10), .int 0, .int 0, .int (-1), .int 0, .int 0]))] H := hP
  have hD : va_D A [(h0, .inr (11, [.ref (r 0), .ref al, .ref (r 2), .ref (r 3), .ref (r 4), .ref (r 5), .ref (r 6), .ref (r 7), .ref (r 8), .ref (r 9), .ref (r 10), .int 0, .int 0, .int (-1), .int 0, .int 0]))] := hD
  refine lv_aload_n hx hb dX11_forget_5 rfl (lv_at hl 0 rfl) ?_
  refine lv_iconst (v := 0) hx hb dX11_forget_6 (by decide) ?_
  refine va_put (D := (dC, dI)) (ci := 11) (v := .int 0) (ty := .boolean) (C := RX11) (T := TX11) (N := 16) hx hb hts (fun w h => List.mem_cons_of_mem _ (jnGA_X11 w h)) tyX11 tyX11_ok nmX11 hown hK hP hD hS 0 rfl rfl 14 (by decide) (hts _ (List.mem_cons_of_mem _ mGA_158)) (fun _ h9 => h9) rfl (by decide +kernel) rfl rfl (Nat.le_of_ble_eq_true rfl) dX11_forget_7 (fun H locs hP hD hS => ?_)
  have hP : va_P (dC, dI) vwCl [(h0, .inr (11, [.ref (r 0), .ref al, .ref (r 2), .ref (r 3), .ref (r 4), .ref (r 5), .ref (r 6), .ref (r 7), .ref (r 8), .ref (r 9), .ref (r 10), .int 0, .int 0, .int (-1), .int 0, .int 0]))] H := hP
  have hD : va_D A [(h0, .inr (11, [.ref (r 0), .ref al, .ref (r 2), .ref (r 3), .ref (r 4), .ref (r 5), .ref (r 6), .ref (r 7), .ref (r 8), .ref (r 9), .ref (r 10), .int 0, .int 0, .int (-1), .int 0, .int 0]))] := hD
  refine lv_aload_n hx hb dX11_forget_10 rfl (lv_at hl 0 rfl) ?_
  refine lv_iconst (v := 0) hx hb dX11_forget_11 (by decide) ?_
  refine va_put (D := (dC, dI)) (ci := 11) (v := .int 0) (ty := .boolean) (C := RX11) (T := TX11) (N := 16) hx hb hts (fun w h => List.mem_cons_of_mem _ (jnGA_X11 w h)) tyX11 tyX11_ok nmX11 hown hK hP hD hS 0 rfl rfl 15 (by decide) (hts _ (List.mem_cons_of_mem _ mGA_159)) (fun _ h9 => h9) rfl (by decide +kernel) rfl rfl (Nat.le_of_ble_eq_true rfl) dX11_forget_12 (fun H locs hP hD hS => ?_)
  have hP : va_P (dC, dI) vwCl [(h0, .inr (11, [.ref (r 0), .ref al, .ref (r 2), .ref (r 3), .ref (r 4), .ref (r 5), .ref (r 6), .ref (r 7), .ref (r 8), .ref (r 9), .ref (r 10), .int 0, .int 0, .int (-1), .int 0, .int 0]))] H := hP
  have hD : va_D A [(h0, .inr (11, [.ref (r 0), .ref al, .ref (r 2), .ref (r 3), .ref (r 4), .ref (r 5), .ref (r 6), .ref (r 7), .ref (r 8), .ref (r 9), .ref (r 10), .int 0, .int 0, .int (-1), .int 0, .int 0]))] := hD
  have hP9 := hP.sub (ws' := [(h0, .inr (11, [.ref (r 0), .ref al, .ref (r 2), .ref (r 3), .ref (r 4), .ref (r 5), .ref (r 6), .ref (r 7), .ref (r 8), .ref (r 9), .ref (r 10), .int 0, .int 0, .int (-1), .int 0, .int 0]))]) [0] rfl
  have hD9 := hD.sub (ws' := [(h0, .inr (11, [.ref (r 0), .ref al, .ref (r 2), .ref (r 3), .ref (r 4), .ref (r 5), .ref (r 6), .ref (r 7), .ref (r 8), .ref (r 9), .ref (r 10), .int 0, .int 0, .int (-1), .int 0, .int 0]))]) [0] (by decide) rfl
  have hK9 := hK.sub (tys' := []) [] rfl
  exact W.vret hx hb hr (fun t ht hW => ⟨⟨(), rfl, trivial, by rw [ht]; exact hP9, va_K.moved hW.alike hK9, hD9⟩, hS.F ht⟩) hS.2.2 dX11_forget_15
theorem dX11_almanac_0 : decode cX11_almanac 0 = .ok (.aload_n 0, 1) := by decide +kernel
theorem dX11_almanac_1 : decode cX11_almanac 1 = .ok (.getfield 12, 3) := by decide +kernel
theorem dX11_almanac_4 : decode cX11_almanac 4 = .ok (.invokevirtual 102, 3) := by decide +kernel
theorem dX11_almanac_7 : decode cX11_almanac 7 = .ok (.aload_n 0, 1) := by decide +kernel
theorem dX11_almanac_8 : decode cX11_almanac 8 = .ok (.getfield 12, 3) := by decide +kernel
theorem dX11_almanac_11 : decode cX11_almanac 11 = .ok (.getfield 89, 3) := by decide +kernel
theorem dX11_almanac_14 : decode cX11_almanac 14 = .ok (.iconst 0, 1) := by decide +kernel
theorem dX11_almanac_15 : decode cX11_almanac 15 = .ok (.putfield 93, 3) := by decide +kernel
theorem dX11_almanac_18 : decode cX11_almanac 18 = .ok (.aload_n 0, 1) := by decide +kernel
theorem dX11_almanac_19 : decode cX11_almanac 19 = .ok (.getfield 12, 3) := by decide +kernel
theorem dX11_almanac_22 : decode cX11_almanac 22 = .ok (.getfield 105, 3) := by decide +kernel
theorem dX11_almanac_25 : decode cX11_almanac 25 = .ok (.ifCond .eq 6, 3) := by decide +kernel
theorem dX11_almanac_31 : decode cX11_almanac 31 = .ok (.aload_n 0, 1) := by decide +kernel
theorem dX11_almanac_32 : decode cX11_almanac 32 = .ok (.getfield 12, 3) := by decide +kernel
theorem dX11_almanac_35 : decode cX11_almanac 35 = .ok (.getfield 108, 3) := by decide +kernel
theorem dX11_almanac_38 : decode cX11_almanac 38 = .ok (.astore_n 1, 1) := by decide +kernel
theorem dX11_almanac_39 : decode cX11_almanac 39 = .ok (.aload_n 0, 1) := by decide +kernel
theorem dX11_almanac_40 : decode cX11_almanac 40 = .ok (.getfield 12, 3) := by decide +kernel
theorem dX11_almanac_43 : decode cX11_almanac 43 = .ok (.aload_n 0, 1) := by decide +kernel
theorem dX11_almanac_44 : decode cX11_almanac 44 = .ok (.getfield 19, 3) := by decide +kernel
theorem dX11_almanac_47 : decode cX11_almanac 47 = .ok (.putfield 108, 3) := by decide +kernel
theorem dX11_almanac_50 : decode cX11_almanac 50 = .ok (.aload_n 0, 1) := by decide +kernel
theorem dX11_almanac_51 : decode cX11_almanac 51 = .ok (.aload_n 1, 1) := by decide +kernel
theorem dX11_almanac_52 : decode cX11_almanac 52 = .ok (.putfield 19, 3) := by decide +kernel
theorem dX11_almanac_55 : decode cX11_almanac 55 = .ok (.aload_n 0, 1) := by decide +kernel
theorem dX11_almanac_56 : decode cX11_almanac 56 = .ok (.invokevirtual 111, 3) := by decide +kernel
theorem dX11_almanac_59 : decode cX11_almanac 59 = .ok (.aload_n 0, 1) := by decide +kernel
theorem dX11_almanac_60 : decode cX11_almanac 60 = .ok (.getfield 19, 3) := by decide +kernel
theorem dX11_almanac_63 : decode cX11_almanac 63 = .ok (.getfield 114, 3) := by decide +kernel
theorem dX11_almanac_66 : decode cX11_almanac 66 = .ok (.ireturn, 1) := by decide +kernel
set_option maxHeartbeats 4000000 in
set_option maxRecDepth 100000 in
theorem fX11_almanac (l : Launch) (dC : Nat → ClassId) (dI : Nat → Nat → Nat) (sz : Nat) (h0 : Nat) (r : Nat → Nat) : Met l yX11_almanac (.code yX11_almanac cX11_almanac 2 (some .int) :: wsGA) ({ frames := 3, cells := 0, slots := 0, locals := 63 }) (va_Pc [.ref h0] (fun U => U.heap.size = sz ∧ va_P (dC, dI) vwCl [(h0, .inr (11, fsX r)), ((r 0), .inr (6, fsR r)), ((r 11), .inr (10, fsT r)), ((r 12), .inr (0, fsD r))] U.heap ∧ va_K (dC, dI) vwCl [] U ∧ va_D (fun _ => True) [(h0, .inr (11, fsX r)), ((r 0), .inr (6, fsR r)), ((r 11), .inr (10, fsT r)), ((r 12), .inr (0, fsD r))])) (va_Qi (fun (r : Int32) (u : Unit) => r = 0) (fun _ _ => True) (va_A [(h0, .inr (11, fsX r)), ((r 0), .inr (6, fsR r)), ((r 11), .inr (10, fsT r)), ((r 12), .inr (0, fsD r))] sz)) 0 0 (va_A [(h0, .inr (11, fsX r)), ((r 0), .inr (6, fsR r)), ((r 11), .inr (10, fsT r)), ((r 12), .inr (0, fsD r))] sz) := by
  refine Met.ofW (cc := cX11_almanac) (maxL := 2) (ret := (some .int)) (by decide) rfl ?_
  intro p e s m args below meth c s₁ B hml hv
  obtain ⟨rfl, hsz, hP, hK, hD0⟩ := hv
  have hx := B.exec
  have hb := B.bytes
  have hr := B.returns
  have hts := atoms_spec (ws := (.code yX11_almanac cX11_almanac 2 (some .int) :: wsGA)) B.pre
  have hown : s.vm.findClass RX11 = some m.cls := findClass_of_methodNamed B.named
  have hlocks := B.notSynchronized
  subst hsz
  have hD := hD0.self (sz := s.heap.size)
  generalize hAe : va_A [(h0, .inr (11, fsX r)), ((r 0), .inr (6, fsR r)), ((r 11), .inr (10, fsT r)), ((r 12), .inr (0, fsD r))] s.heap.size = A at hD ⊢
  have hA : ∀ q : Nat, s.heap.size ≤ q → A q := fun q h => by rw [← hAe]; exact Or.inr h
  have hS : va_S A s.heap s.heap [] := va_S.rf
  have hl := lv_entry ([.ref h0]) (n := 2) (Nat.le_of_ble_eq_true rfl)
  rw [lg_entry_eq]
  generalize (lg_sl ([.ref h0]) ++ List.replicate (2 - (lg_sl ([.ref h0])).length) Slot.unset).toArray = ls at hl ⊢
  have hl : lv_has ls 2 [(0, .ref h0)] := hl
  refine lv_aload_n hx hb dX11_almanac_0 rfl (lv_at hl 0 rfl) ?_
  refine va_get (D := (dC, dI)) (ci := 11) (v := .ref (r 0)) (C := RX11) (T := TX11) (N := 16) hx hb hts (fun w h => List.mem_cons_of_mem _ (jnGA_X11 w h)) hown hK hP 0 rfl rfl 0 (by decide) (hts _ (List.mem_cons_of_mem _ mGA_31)) (fun _ h9 => h9) rfl dX11_almanac_1 ?_
  have hPc := hP.sub (ws' := [((r 0), .inr (6, fsR r)), ((r 11), .inr (10, fsT r)), ((r 12), .inr (0, fsD r))]) [1, 2, 3] rfl
  have hDc := hD.sub (ws' := [((r 0), .inr (6, fsR r)), ((r 11), .inr (10, fsT r)), ((r 12), .inr (0, fsD r))]) [1, 2, 3] (by decide) rfl
  have hKc := hK.sub (tys' := []) [] rfl
  have hFc := va_free (wc := [((r 0), .inr (6, fsR r)), ((r 11), .inr (10, fsT r)), ((r 12), .inr (0, fsD r))]) hD hS hA [1, 2, 3] rfl
  refine va_callv (va_runV (As := []) (rest := []) ⟨hx, hb, hml, hown, hts⟩ (fX6_read l dC dI s.heap.size (r 0) r) (cwV 0 hts (gz_gV mGA_188 mGA_189 mGA_190 mGA_121 mGA_187 goodGA) rfl rfl rfl (by decide +kernel) ⟨Nat.le_of_ble_eq_true rfl, Nat.le_of_ble_eq_true rfl⟩) ⟨fun a U g mk q => by obtain ⟨q0, q1, qP, qK, qD⟩ := q; exact ⟨q0, q1, qP, va_K.moved (u := U) (U := U.calling g mk a) (Vm.Alike.refl U.vm) qK, qD⟩, va_recv hKc hPc (ci := 6) (q0 := 0) rfl rfl, fun U hU hW => ⟨rfl, by rw [hU], by rw [hU]; exact hPc, va_K.moved hW.alike hKc, hDc.weaken (fun _ _ _ _ => trivial)⟩⟩ rfl rfl hl.1 rfl (lv_room (Nat.le_of_ble_eq_true rfl)) dX11_almanac_4 ⟨Nat.le_of_ble_eq_true rfl, Nat.le_of_ble_eq_true rfl⟩) hS (fun q _ h => hFc q h) hFc (fun  u t H1 locs ht hvm hw hB hz1 hk1 hS => ?_)
  obtain ⟨hP1, hK1, hD1⟩ := hB
  rw [ht] at hP1
  have hK1 := va_K.moved hvm.symm hK1
  obtain ⟨hP, hD⟩ := va_join (wr := [(h0, .inr (11, fsX r))]) (w1 := [((r 0), .inr (6, fsR r)), ((r 11), .inr (10, fsT r)), ((r 12), .inr (0, fsD r))]) hP hD [1, 2, 3] [0] rfl rfl (by decide) (by decide) hk1 hFc hP1 hD1
  generalize H1 = H at hP hS ⊢
  have hP : va_P (dC, dI) vwCl [(h0, .inr (11, fsX r)), ((r 0), .inr (6, fsR r)), ((r 11), .inr (10, fsT r)), ((r 12), .inr (0, fsD r))] H := hP
  have hD : va_D A [(h0, .inr (11, fsX r)), ((r 0), .inr (6, fsR r)), ((r 11), .inr (10, fsT r)), ((r 12), .inr (0, fsD r))] := hD
  refine lv_aload_n hx hb dX11_almanac_7 rfl (lv_at hl 0 rfl) ?_
  refine va_get (D := (dC, dI)) (ci := 11) (v := .ref (r 0)) (C := RX11) (T := TX11) (N := 16) hx hb hts (fun w h => List.mem_cons_of_mem _ (jnGA_X11 w h)) hown hK hP 0 rfl rfl 0 (by decide) (hts _ (List.mem_cons_of_mem _ mGA_31)) (fun _ h9 => h9) rfl dX11_almanac_8 ?_
  refine va_get (D := (dC, dI)) (ci := 6) (v := .ref (r 11)) (C := RX6) (T := TX6) (N := 7) hx hb hts (fun w h => List.mem_cons_of_mem _ (jnGA_X6 w h)) hown hK hP 1 rfl rfl 0 (by decide) (hts _ (List.mem_cons_of_mem _ mGA_37)) (fun _ h9 => h9) rfl dX11_almanac_11 ?_
  refine lv_iconst (v := 0) hx hb dX11_almanac_14 (by decide) ?_
  refine va_put (D := (dC, dI)) (ci := 10) (v := .int 0) (ty := .int) (C := RX10) (T := TX10) (N := 2) hx hb hts (fun w h => List.mem_cons_of_mem _ (jnGA_X10 w h)) tyX10 tyX10_ok nmX10 hown hK hP hD hS 2 rfl rfl 1 (by decide) (hts _ (List.mem_cons_of_mem _ mGA_38)) (fun _ h9 => h9) rfl (by decide +kernel) rfl rfl (Nat.le_of_ble_eq_true rfl) dX11_almanac_15 (fun H locs hP hD hS => ?_)
  have hP : va_P (dC, dI) vwCl [(h0, .inr (11, fsX r)), ((r 0), .inr (6, fsR r)), ((r 11), .inr (10, [.ref (r 13), .int 0])), ((r 12), .inr (0, fsD r))] H := hP
  have hD : va_D A [(h0, .inr (11, fsX r)), ((r 0), .inr (6, fsR r)), ((r 11), .inr (10, [.ref (r 13), .int 0])), ((r 12), .inr (0, fsD r))] := hD
  refine lv_aload_n hx hb dX11_almanac_18 rfl (lv_at hl 0 rfl) ?_
  refine va_get (D := (dC, dI)) (ci := 11) (v := .ref (r 0)) (C := RX11) (T := TX11) (N := 16) hx hb hts (fun w h => List.mem_cons_of_mem _ (jnGA_X11 w h)) hown hK hP 0 rfl rfl 0 (by decide) (hts _ (List.mem_cons_of_mem _ mGA_31)) (fun _ h9 => h9) rfl dX11_almanac_19 ?_
  refine va_get (D := (dC, dI)) (ci := 6) (v := .int 0) (C := RX6) (T := TX6) (N := 7) hx hb hts (fun w h => List.mem_cons_of_mem _ (jnGA_X6 w h)) hown hK hP 1 rfl rfl 2 (by decide) (hts _ (List.mem_cons_of_mem _ mGA_33)) (fun _ h9 => h9) rfl dX11_almanac_22 ?_
  refine lv_if_eq (tgt := 31) hx hb dX11_almanac_25 (by decide) (fun c_2 => ?_) (fun c_2 => absurd (by decide) c_2)
  refine lv_aload_n hx hb dX11_almanac_31 rfl (lv_at hl 0 rfl) ?_
  refine va_get (D := (dC, dI)) (ci := 11) (v := .ref (r 0)) (C := RX11) (T := TX11) (N := 16) hx hb hts (fun w h => List.mem_cons_of_mem _ (jnGA_X11 w h)) hown hK hP 0 rfl rfl 0 (by decide) (hts _ (List.mem_cons_of_mem _ mGA_31)) (fun _ h9 => h9) rfl dX11_almanac_32 ?_
  refine va_get (D := (dC, dI)) (ci := 6) (v := .ref (r 12)) (C := RX6) (T := TX6) (N := 7) hx hb hts (fun w h => List.mem_cons_of_mem _ (jnGA_X6 w h)) hown hK hP 1 rfl rfl 1 (by decide) (hts _ (List.mem_cons_of_mem _ mGA_191)) (fun _ h9 => h9) rfl dX11_almanac_35 ?_
  refine lv_astore_n (lv' := [(1, .ref (r 12)), (0, .ref h0)]) hx hb dX11_almanac_38 rfl hl (by decide) rfl (fun ls hl => ?_)
  refine lv_aload_n hx hb dX11_almanac_39 rfl (lv_at hl 1 rfl) ?_
  refine va_get (D := (dC, dI)) (ci := 11) (v := .ref (r 0)) (C := RX11) (T := TX11) (N := 16) hx hb hts (fun w h => List.mem_cons_of_mem _ (jnGA_X11 w h)) hown hK hP 0 rfl rfl 0 (by decide) (hts _ (List.mem_cons_of_mem _ mGA_31)) (fun _ h9 => h9) rfl dX11_almanac_40 ?_
  refine lv_aload_n hx hb dX11_almanac_43 rfl (lv_at hl 1 rfl) ?_
  refine va_get (D := (dC, dI)) (ci := 11) (v := .ref (r 1)) (C := RX11) (T := TX11) (N := 16) hx hb hts (fun w h => List.mem_cons_of_mem _ (jnGA_X11 w h)) hown hK hP 0 rfl rfl 1 (by decide) (hts _ (List.mem_cons_of_mem _ mGA_0)) (fun _ h9 => h9) rfl dX11_almanac_44 ?_
  refine va_put (D := (dC, dI)) (ci := 6) (v := .ref (r 1)) (ty := .object "SightedMonths$Almanac") (C := RX6) (T := TX6) (N := 7) hx hb hts (fun w h => List.mem_cons_of_mem _ (jnGA_X6 w h)) tyX6 tyX6_ok nmX6 hown hK hP hD hS 1 rfl rfl 1 (by decide) (hts _ (List.mem_cons_of_mem _ mGA_191)) (fun _ h9 => h9) rfl (by decide +kernel) rfl rfl (Nat.le_of_ble_eq_true rfl) dX11_almanac_47 (fun H locs hP hD hS => ?_)
  have hP : va_P (dC, dI) vwCl [(h0, .inr (11, fsX r)), ((r 0), .inr (6, [.ref (r 11), .ref (r 1), .int 0, .int (-1), .int 0, .int 0, .int 0])), ((r 11), .inr (10, [.ref (r 13), .int 0])), ((r 12), .inr (0, fsD r))] H := hP
  have hD : va_D A [(h0, .inr (11, fsX r)), ((r 0), .inr (6, [.ref (r 11), .ref (r 1), .int 0, .int (-1), .int 0, .int 0, .int 0])), ((r 11), .inr (10, [.ref (r 13), .int 0])), ((r 12), .inr (0, fsD r))] := hD
  refine lv_aload_n hx hb dX11_almanac_50 rfl (lv_at hl 1 rfl) ?_
  refine lv_aload_n hx hb dX11_almanac_51 rfl (lv_at hl 0 rfl) ?_
  refine va_put (D := (dC, dI)) (ci := 11) (v := .ref (r 12)) (ty := .object "SightedMonths$Almanac") (C := RX11) (T := TX11) (N := 16) hx hb hts (fun w h => List.mem_cons_of_mem _ (jnGA_X11 w h)) tyX11 tyX11_ok nmX11 hown hK hP hD hS 0 rfl rfl 1 (by decide) (hts _ (List.mem_cons_of_mem _ mGA_0)) (fun _ h9 => h9) rfl (by decide +kernel) rfl rfl (Nat.le_of_ble_eq_true rfl) dX11_almanac_52 (fun H locs hP hD hS => ?_)
  have hP : va_P (dC, dI) vwCl [(h0, .inr (11, [.ref (r 0), .ref (r 12), .ref (r 2), .ref (r 3), .ref (r 4), .ref (r 5), .ref (r 6), .ref (r 7), .ref (r 8), .ref (r 9), .ref (r 10), .int 0, .int 0, .int (-1), .int 0, .int 0])), ((r 0), .inr (6, [.ref (r 11), .ref (r 1), .int 0, .int (-1), .int 0, .int 0, .int 0])), ((r 11), .inr (10, [.ref (r 13), .int 0])), ((r 12), .inr (0, fsD r))] H := hP
  have hD : va_D A [(h0, .inr (11, [.ref (r 0), .ref (r 12), .ref (r 2), .ref (r 3), .ref (r 4), .ref (r 5), .ref (r 6), .ref (r 7), .ref (r 8), .ref (r 9), .ref (r 10), .int 0, .int 0, .int (-1), .int 0, .int 0])), ((r 0), .inr (6, [.ref (r 11), .ref (r 1), .int 0, .int (-1), .int 0, .int 0, .int 0])), ((r 11), .inr (10, [.ref (r 13), .int 0])), ((r 12), .inr (0, fsD r))] := hD
  refine lv_aload_n hx hb dX11_almanac_55 rfl (lv_at hl 1 rfl) ?_
  have hPc := hP.sub (ws' := [(h0, .inr (11, [.ref (r 0), .ref (r 12), .ref (r 2), .ref (r 3), .ref (r 4), .ref (r 5), .ref (r 6), .ref (r 7), .ref (r 8), .ref (r 9), .ref (r 10), .int 0, .int 0, .int (-1), .int 0, .int 0]))]) [0] rfl
  have hDc := hD.sub (ws' := [(h0, .inr (11, [.ref (r 0), .ref (r 12), .ref (r 2), .ref (r 3), .ref (r 4), .ref (r 5), .ref (r 6), .ref (r 7), .ref (r 8), .ref (r 9), .ref (r 10), .int 0, .int 0, .int (-1), .int 0, .int 0]))]) [0] (by decide) rfl
  have hKc := hK.sub (tys' := []) [] rfl
  have hFc := va_free (wc := [(h0, .inr (11, [.ref (r 0), .ref (r 12), .ref (r 2), .ref (r 3), .ref (r 4), .ref (r 5), .ref (r 6), .ref (r 7), .ref (r 8), .ref (r 9), .ref (r 10), .int 0, .int 0, .int (-1), .int 0, .int 0]))]) hD hS hA [0] rfl
  refine va_callv (va_runV (As := []) (rest := []) ⟨hx, hb, hml, hown, hts⟩ (fX11_forget l dC dI H.size h0 r (r 12)) (cwV 0 hts (gz_gV mGA_193 mGA_194 mGA_195 mGA_6 mGA_192 goodGA) rfl rfl rfl (by decide +kernel) ⟨Nat.le_of_ble_eq_true rfl, Nat.le_of_ble_eq_true rfl⟩) ⟨fun a U g mk q => by obtain ⟨q0, q1, qP, qK, qD⟩ := q; exact ⟨q0, q1, qP, va_K.moved (u := U) (U := U.calling g mk a) (Vm.Alike.refl U.vm) qK, qD⟩, va_recv hKc hPc (ci := 11) (q0 := 0) rfl rfl, fun U hU hW => ⟨rfl, by rw [hU], by rw [hU]; exact hPc, va_K.moved hW.alike hKc, hDc.weaken (fun _ _ _ _ => trivial)⟩⟩ rfl rfl hl.1 rfl (lv_room (Nat.le_of_ble_eq_true rfl)) dX11_almanac_56 ⟨Nat.le_of_ble_eq_true rfl, Nat.le_of_ble_eq_true rfl⟩) hS (fun q _ h => hFc q h) hFc (fun  u t H1 locs ht hvm hw hB hz1 hk1 hS => ?_)
  obtain ⟨hP1, hK1, hD1⟩ := hB
  rw [ht] at hP1
  have hK1 := va_K.moved hvm.symm hK1
  obtain ⟨hP, hD⟩ := va_join (wr := [((r 0), .inr (6, [.ref (r 11), .ref (r 1), .int 0, .int (-1), .int 0, .int 0, .int 0])), ((r 11), .inr (10, [.ref (r 13), .int 0])), ((r 12), .inr (0, fsD r))]) (w1 := [(h0, .inr (11, [.ref (r 0), .ref (r 12), .ref (r 2), .ref (r 3), .ref (r 4), .ref (r 5), .ref (r 6), .ref (r 7), .ref (r 8), .ref (r 9), .ref (r 10), .int 0, .int 0, .int (-1), .int 0, .int 0]))]) hP hD [0] [1, 2, 3] rfl rfl (by decide) (by decide) hk1 hFc hP1 hD1
  generalize H1 = H at hP hS ⊢
  have hP : va_P (dC, dI) vwCl [((r 0), .inr (6, [.ref (r 11), .ref (r 1), .int 0, .int (-1), .int 0, .int 0, .int 0])), ((r 11), .inr (10, [.ref (r 13), .int 0])), ((r 12), .inr (0, fsD r)), (h0, .inr (11, [.ref (r 0), .ref (r 12), .ref (r 2), .ref (r 3), .ref (r 4), .ref (r 5), .ref (r 6), .ref (r 7), .ref (r 8), .ref (r 9), .ref (r 10), .int 0, .int 0, .int (-1), .int 0, .int 0]))] H := hP
  have hD : va_D A [((r 0), .inr (6, [.ref (r 11), .ref (r 1), .int 0, .int (-1), .int 0, .int 0, .int 0])), ((r 11), .inr (10, [.ref (r 13), .int 0])), ((r 12), .inr (0, fsD r)), (h0, .inr (11, [.ref (r 0), .ref (r 12), .ref (r 2), .ref (r 3), .ref (r 4), .ref (r 5), .ref (r 6), .ref (r 7), .ref (r 8), .ref (r 9), .ref (r 10), .int 0, .int 0, .int (-1), .int 0, .int 0]))] := hD
  refine lv_aload_n hx hb dX11_almanac_59 rfl (lv_at hl 1 rfl) ?_
  refine va_get (D := (dC, dI)) (ci := 11) (v := .ref (r 12)) (C := RX11) (T := TX11) (N := 16) hx hb hts (fun w h => List.mem_cons_of_mem _ (jnGA_X11 w h)) hown hK hP 3 rfl rfl 1 (by decide) (hts _ (List.mem_cons_of_mem _ mGA_0)) (fun _ h9 => h9) rfl dX11_almanac_60 ?_
  refine va_get (D := (dC, dI)) (ci := 0) (v := .int 0) (C := RX0) (T := TX0) (N := 13) hx hb hts (fun w h => List.mem_cons_of_mem _ (jnGA_X0 w h)) hown hK hP 2 rfl rfl 3 (by decide) (hts _ (List.mem_cons_of_mem _ mGA_36)) (fun _ h9 => h9) rfl dX11_almanac_63 ?_
  refine W.widen (k := 0) (n := 0) (Nat.le_of_ble_eq_true rfl) (Nat.le_of_ble_eq_true rfl) ?_
  exact W.iret (v := 0) hx hb hr (fun t ht hW => ⟨⟨0, (), rfl, rfl, trivial⟩, hS.F ht⟩) hS.2.2 dX11_almanac_66
end
