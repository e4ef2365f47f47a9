section
-- ===== PART A: goes FIRST, ahead of the names: the tables' words, and 'selects' of the private methods out of them =====
/-- a private method of a class that the tables say can be made, by its rows of tables_1 -/
def lw_okq (q : MethodName × Nat) : Prop := (q.1.cls ≠ "java/lang/invoke/MethodHandle" ∧ q.1.cls ≠ "java/lang/invoke/VarHandle") ∧ Cond.instantiable q.1.cls q.2 ∈ tables_1 ∧ Cond.privateMethod q.1 ∈ tables_1 ∧ Cond.instanceMethod q.1 ∈ tables_1
theorem lw_p0 : lw_okq (⟨"SightedMonths$Reader", "step", "()V"⟩, 7) := ⟨⟨by decide +kernel, by decide +kernel⟩, List.mem_of_getElem? (i := 31) (by decide +kernel), List.mem_of_getElem? (i := 446) (by decide +kernel), List.mem_of_getElem? (i := 447) (by decide +kernel)⟩
theorem lw_p1 : lw_okq (⟨"SightedMonths$Reader", "byteAt", "(I)I"⟩, 7) := ⟨⟨by decide +kernel, by decide +kernel⟩, List.mem_of_getElem? (i := 31) (by decide +kernel), List.mem_of_getElem? (i := 450) (by decide +kernel), List.mem_of_getElem? (i := 451) (by decide +kernel)⟩
theorem lw_p2 : lw_okq (⟨"SightedMonths$Reader", "readLine", "()V"⟩, 7) := ⟨⟨by decide +kernel, by decide +kernel⟩, List.mem_of_getElem? (i := 31) (by decide +kernel), List.mem_of_getElem? (i := 463) (by decide +kernel), List.mem_of_getElem? (i := 464) (by decide +kernel)⟩
theorem lw_p3 : lw_okq (⟨"SightedMonths$Reader", "readFirst", "()V"⟩, 7) := ⟨⟨by decide +kernel, by decide +kernel⟩, List.mem_of_getElem? (i := 31) (by decide +kernel), List.mem_of_getElem? (i := 467) (by decide +kernel), List.mem_of_getElem? (i := 468) (by decide +kernel)⟩
theorem lw_p4 : lw_okq (⟨"SightedMonths$Reader", "passWord", "(Ljava/lang/String;)V"⟩, 7) := ⟨⟨by decide +kernel, by decide +kernel⟩, List.mem_of_getElem? (i := 31) (by decide +kernel), List.mem_of_getElem? (i := 472) (by decide +kernel), List.mem_of_getElem? (i := 473) (by decide +kernel)⟩
theorem lw_p5 : lw_okq (⟨"SightedMonths$Reader", "isWord", "(Ljava/lang/String;)Z"⟩, 7) := ⟨⟨by decide +kernel, by decide +kernel⟩, List.mem_of_getElem? (i := 31) (by decide +kernel), List.mem_of_getElem? (i := 476) (by decide +kernel), List.mem_of_getElem? (i := 477) (by decide +kernel)⟩
theorem lw_p6 : lw_okq (⟨"SightedMonths$Reader", "expect", "(ZI)V"⟩, 7) := ⟨⟨by decide +kernel, by decide +kernel⟩, List.mem_of_getElem? (i := 31) (by decide +kernel), List.mem_of_getElem? (i := 528) (by decide +kernel), List.mem_of_getElem? (i := 529) (by decide +kernel)⟩
theorem lw_p7 : lw_okq (⟨"SightedMonths$Reader", "blame", "(II)V"⟩, 7) := ⟨⟨by decide +kernel, by decide +kernel⟩, List.mem_of_getElem? (i := 31) (by decide +kernel), List.mem_of_getElem? (i := 532) (by decide +kernel), List.mem_of_getElem? (i := 533) (by decide +kernel)⟩
theorem lw_p8 : lw_okq (⟨"SightedMonths$Reader", "passNumber", "(II)I"⟩, 7) := ⟨⟨by decide +kernel, by decide +kernel⟩, List.mem_of_getElem? (i := 31) (by decide +kernel), List.mem_of_getElem? (i := 537) (by decide +kernel), List.mem_of_getElem? (i := 538) (by decide +kernel)⟩
theorem lw_p9 : lw_okq (⟨"SightedMonths$Reader", "valueHere", "()I"⟩, 7) := ⟨⟨by decide +kernel, by decide +kernel⟩, List.mem_of_getElem? (i := 31) (by decide +kernel), List.mem_of_getElem? (i := 541) (by decide +kernel), List.mem_of_getElem? (i := 542) (by decide +kernel)⟩
theorem lw_p10 : lw_okq (⟨"SightedMonths$Reader", "readMoon", "()V"⟩, 7) := ⟨⟨by decide +kernel, by decide +kernel⟩, List.mem_of_getElem? (i := 31) (by decide +kernel), List.mem_of_getElem? (i := 552) (by decide +kernel), List.mem_of_getElem? (i := 553) (by decide +kernel)⟩
theorem lw_p11 : lw_okq (⟨"SightedMonths$Reader", "passHead", "(Z)V"⟩, 7) := ⟨⟨by decide +kernel, by decide +kernel⟩, List.mem_of_getElem? (i := 31) (by decide +kernel), List.mem_of_getElem? (i := 556) (by decide +kernel), List.mem_of_getElem? (i := 557) (by decide +kernel)⟩
theorem lw_p12 : lw_okq (⟨"SightedMonths$Reader", "readPlace", "()V"⟩, 7) := ⟨⟨by decide +kernel, by decide +kernel⟩, List.mem_of_getElem? (i := 31) (by decide +kernel), List.mem_of_getElem? (i := 567) (by decide +kernel), List.mem_of_getElem? (i := 568) (by decide +kernel)⟩
theorem lw_p13 : lw_okq (⟨"SightedMonths$Reader", "passName", "(Z)I"⟩, 7) := ⟨⟨by decide +kernel, by decide +kernel⟩, List.mem_of_getElem? (i := 31) (by decide +kernel), List.mem_of_getElem? (i := 571) (by decide +kernel), List.mem_of_getElem? (i := 572) (by decide +kernel)⟩
theorem lw_p14 : lw_okq (⟨"SightedMonths$Reader", "nameHere", "()I"⟩, 7) := ⟨⟨by decide +kernel, by decide +kernel⟩, List.mem_of_getElem? (i := 31) (by decide +kernel), List.mem_of_getElem? (i := 575) (by decide +kernel), List.mem_of_getElem? (i := 576) (by decide +kernel)⟩
theorem lw_p15 : lw_okq (⟨"SightedMonths$Reader", "readReport", "(I)V"⟩, 7) := ⟨⟨by decide +kernel, by decide +kernel⟩, List.mem_of_getElem? (i := 31) (by decide +kernel), List.mem_of_getElem? (i := 589) (by decide +kernel), List.mem_of_getElem? (i := 590) (by decide +kernel)⟩
def lw_privs_1 : List (MethodName × Nat) := [(⟨"SightedMonths$Reader", "step", "()V"⟩, 7), (⟨"SightedMonths$Reader", "byteAt", "(I)I"⟩, 7), (⟨"SightedMonths$Reader", "readLine", "()V"⟩, 7), (⟨"SightedMonths$Reader", "readFirst", "()V"⟩, 7), (⟨"SightedMonths$Reader", "passWord", "(Ljava/lang/String;)V"⟩, 7), (⟨"SightedMonths$Reader", "isWord", "(Ljava/lang/String;)Z"⟩, 7), (⟨"SightedMonths$Reader", "expect", "(ZI)V"⟩, 7), (⟨"SightedMonths$Reader", "blame", "(II)V"⟩, 7), (⟨"SightedMonths$Reader", "passNumber", "(II)I"⟩, 7), (⟨"SightedMonths$Reader", "valueHere", "()I"⟩, 7), (⟨"SightedMonths$Reader", "readMoon", "()V"⟩, 7), (⟨"SightedMonths$Reader", "passHead", "(Z)V"⟩, 7), (⟨"SightedMonths$Reader", "readPlace", "()V"⟩, 7), (⟨"SightedMonths$Reader", "passName", "(Z)I"⟩, 7), (⟨"SightedMonths$Reader", "nameHere", "()I"⟩, 7), (⟨"SightedMonths$Reader", "readReport", "(I)V"⟩, 7)]
theorem lw_r1 : ∀ q ∈ lw_privs_1, lw_okq q := List.forall_mem_cons.mpr ⟨lw_p0, List.forall_mem_cons.mpr ⟨lw_p1, List.forall_mem_cons.mpr ⟨lw_p2, List.forall_mem_cons.mpr ⟨lw_p3, List.forall_mem_cons.mpr ⟨lw_p4, List.forall_mem_cons.mpr ⟨lw_p5, List.forall_mem_cons.mpr ⟨lw_p6, List.forall_mem_cons.mpr ⟨lw_p7, List.forall_mem_cons.mpr ⟨lw_p8, List.forall_mem_cons.mpr ⟨lw_p9, List.forall_mem_cons.mpr ⟨lw_p10, List.forall_mem_cons.mpr ⟨lw_p11, List.forall_mem_cons.mpr ⟨lw_p12, List.forall_mem_cons.mpr ⟨lw_p13, List.forall_mem_cons.mpr ⟨lw_p14, List.forall_mem_cons.mpr ⟨lw_p15, fun _ h => absurd h List.not_mem_nil⟩⟩⟩⟩⟩⟩⟩⟩⟩⟩⟩⟩⟩⟩⟩⟩
theorem lw_p16 : lw_okq (⟨"SightedMonths$Reader", "readDeed", "()V"⟩, 7) := ⟨⟨by decide +kernel, by decide +kernel⟩, List.mem_of_getElem? (i := 31) (by decide +kernel), List.mem_of_getElem? (i := 603) (by decide +kernel), List.mem_of_getElem? (i := 604) (by decide +kernel)⟩
theorem lw_p17 : lw_okq (⟨"SightedMonths$Reader", "passSign", "()V"⟩, 7) := ⟨⟨by decide +kernel, by decide +kernel⟩, List.mem_of_getElem? (i := 31) (by decide +kernel), List.mem_of_getElem? (i := 614) (by decide +kernel), List.mem_of_getElem? (i := 615) (by decide +kernel)⟩
theorem lw_p18 : lw_okq (⟨"SightedMonths", "forget", "()V"⟩, 16) := ⟨⟨by decide +kernel, by decide +kernel⟩, List.mem_of_getElem? (i := 23) (by decide +kernel), List.mem_of_getElem? (i := 618) (by decide +kernel), List.mem_of_getElem? (i := 619) (by decide +kernel)⟩
theorem lw_p19 : lw_okq (⟨"SightedMonths", "hasPlace", "(I)Z"⟩, 16) := ⟨⟨by decide +kernel, by decide +kernel⟩, List.mem_of_getElem? (i := 23) (by decide +kernel), List.mem_of_getElem? (i := 634) (by decide +kernel), List.mem_of_getElem? (i := 635) (by decide +kernel)⟩
theorem lw_p20 : lw_okq (⟨"SightedMonths", "hasReport", "(I)Z"⟩, 16) := ⟨⟨by decide +kernel, by decide +kernel⟩, List.mem_of_getElem? (i := 23) (by decide +kernel), List.mem_of_getElem? (i := 650) (by decide +kernel), List.mem_of_getElem? (i := 651) (by decide +kernel)⟩
theorem lw_p21 : lw_okq (⟨"SightedMonths", "hasDeed", "(I)Z"⟩, 16) := ⟨⟨by decide +kernel, by decide +kernel⟩, List.mem_of_getElem? (i := 23) (by decide +kernel), List.mem_of_getElem? (i := 658) (by decide +kernel), List.mem_of_getElem? (i := 659) (by decide +kernel)⟩
theorem lw_p22 : lw_okq (⟨"SightedMonths", "hasMonth", "(III)Z"⟩, 16) := ⟨⟨by decide +kernel, by decide +kernel⟩, List.mem_of_getElem? (i := 23) (by decide +kernel), List.mem_of_getElem? (i := 666) (by decide +kernel), List.mem_of_getElem? (i := 667) (by decide +kernel)⟩
theorem lw_p23 : lw_okq (⟨"SightedMonths", "isTold", "()Z"⟩, 16) := ⟨⟨by decide +kernel, by decide +kernel⟩, List.mem_of_getElem? (i := 23) (by decide +kernel), List.mem_of_getElem? (i := 670) (by decide +kernel), List.mem_of_getElem? (i := 671) (by decide +kernel)⟩
theorem lw_p24 : lw_okq (⟨"SightedMonths", "hasTime", "(I)Z"⟩, 16) := ⟨⟨by decide +kernel, by decide +kernel⟩, List.mem_of_getElem? (i := 23) (by decide +kernel), List.mem_of_getElem? (i := 682) (by decide +kernel), List.mem_of_getElem? (i := 683) (by decide +kernel)⟩
theorem lw_p25 : lw_okq (⟨"SightedMonths", "courtBy", "(I)LSightedMonths$Court;"⟩, 16) := ⟨⟨by decide +kernel, by decide +kernel⟩, List.mem_of_getElem? (i := 23) (by decide +kernel), List.mem_of_getElem? (i := 686) (by decide +kernel), List.mem_of_getElem? (i := 687) (by decide +kernel)⟩
theorem lw_p26 : lw_okq (⟨"SightedMonths$Court", "lineUp", "(LSightedMonths$Almanac;I)V"⟩, 7) := ⟨⟨by decide +kernel, by decide +kernel⟩, List.mem_of_getElem? (i := 272) (by decide +kernel), List.mem_of_getElem? (i := 705) (by decide +kernel), List.mem_of_getElem? (i := 706) (by decide +kernel)⟩
theorem lw_p27 : lw_okq (⟨"SightedMonths$Court", "insert", "(IJ)V"⟩, 7) := ⟨⟨by decide +kernel, by decide +kernel⟩, List.mem_of_getElem? (i := 272) (by decide +kernel), List.mem_of_getElem? (i := 717) (by decide +kernel), List.mem_of_getElem? (i := 718) (by decide +kernel)⟩
theorem lw_p28 : lw_okq (⟨"SightedMonths$Court", "verdictOn", "(LSightedMonths$Almanac;LSightedMonths$Report;)I"⟩, 7) := ⟨⟨by decide +kernel, by decide +kernel⟩, List.mem_of_getElem? (i := 272) (by decide +kernel), List.mem_of_getElem? (i := 725) (by decide +kernel), List.mem_of_getElem? (i := 726) (by decide +kernel)⟩
theorem lw_p29 : lw_okq (⟨"SightedMonths", "canBothBe", "(II)Z"⟩, 16) := ⟨⟨by decide +kernel, by decide +kernel⟩, List.mem_of_getElem? (i := 23) (by decide +kernel), List.mem_of_getElem? (i := 778) (by decide +kernel), List.mem_of_getElem? (i := 779) (by decide +kernel)⟩
theorem lw_p30 : lw_okq (⟨"SightedMonths", "unlikeBegins", "([I[I)I"⟩, 16) := ⟨⟨by decide +kernel, by decide +kernel⟩, List.mem_of_getElem? (i := 23) (by decide +kernel), List.mem_of_getElem? (i := 817) (by decide +kernel), List.mem_of_getElem? (i := 818) (by decide +kernel)⟩
theorem lw_p31 : lw_okq (⟨"SightedMonths", "judgeAlone", "(II)V"⟩, 16) := ⟨⟨by decide +kernel, by decide +kernel⟩, List.mem_of_getElem? (i := 23) (by decide +kernel), List.mem_of_getElem? (i := 825) (by decide +kernel), List.mem_of_getElem? (i := 826) (by decide +kernel)⟩
def lw_privs_2 : List (MethodName × Nat) := [(⟨"SightedMonths$Reader", "readDeed", "()V"⟩, 7), (⟨"SightedMonths$Reader", "passSign", "()V"⟩, 7), (⟨"SightedMonths", "forget", "()V"⟩, 16), (⟨"SightedMonths", "hasPlace", "(I)Z"⟩, 16), (⟨"SightedMonths", "hasReport", "(I)Z"⟩, 16), (⟨"SightedMonths", "hasDeed", "(I)Z"⟩, 16), (⟨"SightedMonths", "hasMonth", "(III)Z"⟩, 16), (⟨"SightedMonths", "isTold", "()Z"⟩, 16), (⟨"SightedMonths", "hasTime", "(I)Z"⟩, 16), (⟨"SightedMonths", "courtBy", "(I)LSightedMonths$Court;"⟩, 16), (⟨"SightedMonths$Court", "lineUp", "(LSightedMonths$Almanac;I)V"⟩, 7), (⟨"SightedMonths$Court", "insert", "(IJ)V"⟩, 7), (⟨"SightedMonths$Court", "verdictOn", "(LSightedMonths$Almanac;LSightedMonths$Report;)I"⟩, 7), (⟨"SightedMonths", "canBothBe", "(II)Z"⟩, 16), (⟨"SightedMonths", "unlikeBegins", "([I[I)I"⟩, 16), (⟨"SightedMonths", "judgeAlone", "(II)V"⟩, 16)]
theorem lw_r2 : ∀ q ∈ lw_privs_2, lw_okq q := List.forall_mem_cons.mpr ⟨lw_p16, List.forall_mem_cons.mpr ⟨lw_p17, List.forall_mem_cons.mpr ⟨lw_p18, List.forall_mem_cons.mpr ⟨lw_p19, List.forall_mem_cons.mpr ⟨lw_p20, List.forall_mem_cons.mpr ⟨lw_p21, List.forall_mem_cons.mpr ⟨lw_p22, List.forall_mem_cons.mpr ⟨lw_p23, List.forall_mem_cons.mpr ⟨lw_p24, List.forall_mem_cons.mpr ⟨lw_p25, List.forall_mem_cons.mpr ⟨lw_p26, List.forall_mem_cons.mpr ⟨lw_p27, List.forall_mem_cons.mpr ⟨lw_p28, List.forall_mem_cons.mpr ⟨lw_p29, List.forall_mem_cons.mpr ⟨lw_p30, List.forall_mem_cons.mpr ⟨lw_p31, fun _ h => absurd h List.not_mem_nil⟩⟩⟩⟩⟩⟩⟩⟩⟩⟩⟩⟩⟩⟩⟩⟩
theorem lw_p32 : lw_okq (⟨"SightedMonths", "tallyBy", "(I)LSightedMonths$Tally;"⟩, 16) := ⟨⟨by decide +kernel, by decide +kernel⟩, List.mem_of_getElem? (i := 23) (by decide +kernel), List.mem_of_getElem? (i := 844) (by decide +kernel), List.mem_of_getElem? (i := 845) (by decide +kernel)⟩
theorem lw_p33 : lw_okq (⟨"SightedMonths$Tally", "countBefore", "(LSightedMonths$Frame;)V"⟩, 6) := ⟨⟨by decide +kernel, by decide +kernel⟩, List.mem_of_getElem? (i := 310) (by decide +kernel), List.mem_of_getElem? (i := 855) (by decide +kernel), List.mem_of_getElem? (i := 856) (by decide +kernel)⟩
theorem lw_p34 : lw_okq (⟨"SightedMonths$Tally", "takeOnWithFull", "(II)V"⟩, 6) := ⟨⟨by decide +kernel, by decide +kernel⟩, List.mem_of_getElem? (i := 310) (by decide +kernel), List.mem_of_getElem? (i := 863) (by decide +kernel), List.mem_of_getElem? (i := 864) (by decide +kernel)⟩
theorem lw_p35 : lw_okq (⟨"SightedMonths$Tally", "takeOnWithLean", "(II)V"⟩, 6) := ⟨⟨by decide +kernel, by decide +kernel⟩, List.mem_of_getElem? (i := 310) (by decide +kernel), List.mem_of_getElem? (i := 876) (by decide +kernel), List.mem_of_getElem? (i := 877) (by decide +kernel)⟩
theorem lw_p36 : lw_okq (⟨"SightedMonths$Tally", "countBehind", "()V"⟩, 6) := ⟨⟨by decide +kernel, by decide +kernel⟩, List.mem_of_getElem? (i := 310) (by decide +kernel), List.mem_of_getElem? (i := 881) (by decide +kernel), List.mem_of_getElem? (i := 882) (by decide +kernel)⟩
theorem lw_p37 : lw_okq (⟨"SightedMonths$Tally", "withFull", "(III)I"⟩, 6) := ⟨⟨by decide +kernel, by decide +kernel⟩, List.mem_of_getElem? (i := 310) (by decide +kernel), List.mem_of_getElem? (i := 886) (by decide +kernel), List.mem_of_getElem? (i := 887) (by decide +kernel)⟩
theorem lw_p38 : lw_okq (⟨"SightedMonths$Tally", "withLean", "(III)I"⟩, 6) := ⟨⟨by decide +kernel, by decide +kernel⟩, List.mem_of_getElem? (i := 310) (by decide +kernel), List.mem_of_getElem? (i := 890) (by decide +kernel), List.mem_of_getElem? (i := 891) (by decide +kernel)⟩
theorem lw_p39 : lw_okq (⟨"SightedMonths$Tally", "countStarts", "()V"⟩, 6) := ⟨⟨by decide +kernel, by decide +kernel⟩, List.mem_of_getElem? (i := 310) (by decide +kernel), List.mem_of_getElem? (i := 894) (by decide +kernel), List.mem_of_getElem? (i := 895) (by decide +kernel)⟩
theorem lw_p40 : lw_okq (⟨"SightedMonths", "hasDate", "(II)Z"⟩, 16) := ⟨⟨by decide +kernel, by decide +kernel⟩, List.mem_of_getElem? (i := 23) (by decide +kernel), List.mem_of_getElem? (i := 982) (by decide +kernel), List.mem_of_getElem? (i := 983) (by decide +kernel)⟩
theorem lw_p41 : lw_okq (⟨"SightedMonths$Search", "fillCell", "(II)V"⟩, 5) := ⟨⟨by decide +kernel, by decide +kernel⟩, List.mem_of_getElem? (i := 335) (by decide +kernel), List.mem_of_getElem? (i := 1019) (by decide +kernel), List.mem_of_getElem? (i := 1020) (by decide +kernel)⟩
theorem lw_p42 : lw_okq (⟨"SightedMonths$Search", "withFull", "(III)I"⟩, 5) := ⟨⟨by decide +kernel, by decide +kernel⟩, List.mem_of_getElem? (i := 335) (by decide +kernel), List.mem_of_getElem? (i := 1025) (by decide +kernel), List.mem_of_getElem? (i := 1026) (by decide +kernel)⟩
theorem lw_p43 : lw_okq (⟨"SightedMonths$Search", "withLean", "(III)I"⟩, 5) := ⟨⟨by decide +kernel, by decide +kernel⟩, List.mem_of_getElem? (i := 335) (by decide +kernel), List.mem_of_getElem? (i := 1031) (by decide +kernel), List.mem_of_getElem? (i := 1032) (by decide +kernel)⟩
theorem lw_p44 : lw_okq (⟨"SightedMonths", "backReport", "(LSightedMonths$Report;)V"⟩, 16) := ⟨⟨by decide +kernel, by decide +kernel⟩, List.mem_of_getElem? (i := 23) (by decide +kernel), List.mem_of_getElem? (i := 1049) (by decide +kernel), List.mem_of_getElem? (i := 1050) (by decide +kernel)⟩
theorem lw_p45 : lw_okq (⟨"SightedMonths", "historyNow", "()LSightedMonths$History;"⟩, 16) := ⟨⟨by decide +kernel, by decide +kernel⟩, List.mem_of_getElem? (i := 23) (by decide +kernel), List.mem_of_getElem? (i := 1082) (by decide +kernel), List.mem_of_getElem? (i := 1083) (by decide +kernel)⟩
theorem lw_p46 : lw_okq (⟨"SightedMonths$History", "changesAt", "(II)Z"⟩, 3) := ⟨⟨by decide +kernel, by decide +kernel⟩, List.mem_of_getElem? (i := 357) (by decide +kernel), List.mem_of_getElem? (i := 1101) (by decide +kernel), List.mem_of_getElem? (i := 1102) (by decide +kernel)⟩
theorem lw_p47 : lw_okq (⟨"SightedMonths", "putOut", "(C)V"⟩, 16) := ⟨⟨by decide +kernel, by decide +kernel⟩, List.mem_of_getElem? (i := 23) (by decide +kernel), List.mem_of_getElem? (i := 1117) (by decide +kernel), List.mem_of_getElem? (i := 1118) (by decide +kernel)⟩
def lw_privs_3 : List (MethodName × Nat) := [(⟨"SightedMonths", "tallyBy", "(I)LSightedMonths$Tally;"⟩, 16), (⟨"SightedMonths$Tally", "countBefore", "(LSightedMonths$Frame;)V"⟩, 6), (⟨"SightedMonths$Tally", "takeOnWithFull", "(II)V"⟩, 6), (⟨"SightedMonths$Tally", "takeOnWithLean", "(II)V"⟩, 6), (⟨"SightedMonths$Tally", "countBehind", "()V"⟩, 6), (⟨"SightedMonths$Tally", "withFull", "(III)I"⟩, 6), (⟨"SightedMonths$Tally", "withLean", "(III)I"⟩, 6), (⟨"SightedMonths$Tally", "countStarts", "()V"⟩, 6), (⟨"SightedMonths", "hasDate", "(II)Z"⟩, 16), (⟨"SightedMonths$Search", "fillCell", "(II)V"⟩, 5), (⟨"SightedMonths$Search", "withFull", "(III)I"⟩, 5), (⟨"SightedMonths$Search", "withLean", "(III)I"⟩, 5), (⟨"SightedMonths", "backReport", "(LSightedMonths$Report;)V"⟩, 16), (⟨"SightedMonths", "historyNow", "()LSightedMonths$History;"⟩, 16), (⟨"SightedMonths$History", "changesAt", "(II)Z"⟩, 3), (⟨"SightedMonths", "putOut", "(C)V"⟩, 16)]
theorem lw_r3 : ∀ q ∈ lw_privs_3, lw_okq q := List.forall_mem_cons.mpr ⟨lw_p32, List.forall_mem_cons.mpr ⟨lw_p33, List.forall_mem_cons.mpr ⟨lw_p34, List.forall_mem_cons.mpr ⟨lw_p35, List.forall_mem_cons.mpr ⟨lw_p36, List.forall_mem_cons.mpr ⟨lw_p37, List.forall_mem_cons.mpr ⟨lw_p38, List.forall_mem_cons.mpr ⟨lw_p39, List.forall_mem_cons.mpr ⟨lw_p40, List.forall_mem_cons.mpr ⟨lw_p41, List.forall_mem_cons.mpr ⟨lw_p42, List.forall_mem_cons.mpr ⟨lw_p43, List.forall_mem_cons.mpr ⟨lw_p44, List.forall_mem_cons.mpr ⟨lw_p45, List.forall_mem_cons.mpr ⟨lw_p46, List.forall_mem_cons.mpr ⟨lw_p47, fun _ h => absurd h List.not_mem_nil⟩⟩⟩⟩⟩⟩⟩⟩⟩⟩⟩⟩⟩⟩⟩⟩
theorem lw_p48 : lw_okq (⟨"SightedMonths", "endByOfficial", "(II)I"⟩, 16) := ⟨⟨by decide +kernel, by decide +kernel⟩, List.mem_of_getElem? (i := 23) (by decide +kernel), List.mem_of_getElem? (i := 1129) (by decide +kernel), List.mem_of_getElem? (i := 1130) (by decide +kernel)⟩
theorem lw_p49 : lw_okq (⟨"SightedMonths", "leastLead", "(ILSightedMonths$Deed;LSightedMonths$Deed;)I"⟩, 16) := ⟨⟨by decide +kernel, by decide +kernel⟩, List.mem_of_getElem? (i := 23) (by decide +kernel), List.mem_of_getElem? (i := 1159) (by decide +kernel), List.mem_of_getElem? (i := 1160) (by decide +kernel)⟩
theorem lw_p50 : lw_okq (⟨"SightedMonthsModel", "movesAll", "(Z)V"⟩, 57) := ⟨⟨by decide +kernel, by decide +kernel⟩, List.mem_of_getElem? (i := 1195) (by decide +kernel), List.mem_of_getElem? (i := 1389) (by decide +kernel), List.mem_of_getElem? (i := 1390) (by decide +kernel)⟩
theorem lw_p51 : lw_okq (⟨"SightedMonthsModel", "moves", "(I)I"⟩, 57) := ⟨⟨by decide +kernel, by decide +kernel⟩, List.mem_of_getElem? (i := 1195) (by decide +kernel), List.mem_of_getElem? (i := 1393) (by decide +kernel), List.mem_of_getElem? (i := 1394) (by decide +kernel)⟩
theorem lw_p52 : lw_okq (⟨"SightedMonthsModel", "movesRow", "([I)V"⟩, 57) := ⟨⟨by decide +kernel, by decide +kernel⟩, List.mem_of_getElem? (i := 1195) (by decide +kernel), List.mem_of_getElem? (i := 1397) (by decide +kernel), List.mem_of_getElem? (i := 1398) (by decide +kernel)⟩
theorem lw_p53 : lw_okq (⟨"SightedMonthsModel", "next", "()V"⟩, 57) := ⟨⟨by decide +kernel, by decide +kernel⟩, List.mem_of_getElem? (i := 1195) (by decide +kernel), List.mem_of_getElem? (i := 1401) (by decide +kernel), List.mem_of_getElem? (i := 1402) (by decide +kernel)⟩
theorem lw_p54 : lw_okq (⟨"SightedMonthsModel", "isAt", "(II)Z"⟩, 57) := ⟨⟨by decide +kernel, by decide +kernel⟩, List.mem_of_getElem? (i := 1195) (by decide +kernel), List.mem_of_getElem? (i := 1405) (by decide +kernel), List.mem_of_getElem? (i := 1406) (by decide +kernel)⟩
theorem lw_p55 : lw_okq (⟨"SightedMonthsModel", "readsLine", "()V"⟩, 57) := ⟨⟨by decide +kernel, by decide +kernel⟩, List.mem_of_getElem? (i := 1195) (by decide +kernel), List.mem_of_getElem? (i := 1411) (by decide +kernel), List.mem_of_getElem? (i := 1412) (by decide +kernel)⟩
theorem lw_p56 : lw_okq (⟨"SightedMonthsModel", "readsHead", "()V"⟩, 57) := ⟨⟨by decide +kernel, by decide +kernel⟩, List.mem_of_getElem? (i := 1195) (by decide +kernel), List.mem_of_getElem? (i := 1415) (by decide +kernel), List.mem_of_getElem? (i := 1416) (by decide +kernel)⟩
theorem lw_p57 : lw_okq (⟨"SightedMonthsModel", "word", "(Ljava/lang/String;)V"⟩, 57) := ⟨⟨by decide +kernel, by decide +kernel⟩, List.mem_of_getElem? (i := 1195) (by decide +kernel), List.mem_of_getElem? (i := 1420) (by decide +kernel), List.mem_of_getElem? (i := 1421) (by decide +kernel)⟩
theorem lw_p58 : lw_okq (⟨"SightedMonthsModel", "isWord", "(Ljava/lang/String;)Z"⟩, 57) := ⟨⟨by decide +kernel, by decide +kernel⟩, List.mem_of_getElem? (i := 1195) (by decide +kernel), List.mem_of_getElem? (i := 1424) (by decide +kernel), List.mem_of_getElem? (i := 1425) (by decide +kernel)⟩
theorem lw_p59 : lw_okq (⟨"SightedMonthsModel", "passes", "(Z)V"⟩, 57) := ⟨⟨by decide +kernel, by decide +kernel⟩, List.mem_of_getElem? (i := 1195) (by decide +kernel), List.mem_of_getElem? (i := 1430) (by decide +kernel), List.mem_of_getElem? (i := 1431) (by decide +kernel)⟩
theorem lw_p60 : lw_okq (⟨"SightedMonthsModel", "faults", "(I)V"⟩, 57) := ⟨⟨by decide +kernel, by decide +kernel⟩, List.mem_of_getElem? (i := 1195) (by decide +kernel), List.mem_of_getElem? (i := 1434) (by decide +kernel), List.mem_of_getElem? (i := 1435) (by decide +kernel)⟩
theorem lw_p61 : lw_okq (⟨"SightedMonthsModel", "faultsAt", "(II)V"⟩, 57) := ⟨⟨by decide +kernel, by decide +kernel⟩, List.mem_of_getElem? (i := 1195) (by decide +kernel), List.mem_of_getElem? (i := 1438) (by decide +kernel), List.mem_of_getElem? (i := 1439) (by decide +kernel)⟩
theorem lw_p62 : lw_okq (⟨"SightedMonthsModel", "numberBehind", "(Ljava/lang/String;II)I"⟩, 57) := ⟨⟨by decide +kernel, by decide +kernel⟩, List.mem_of_getElem? (i := 1195) (by decide +kernel), List.mem_of_getElem? (i := 1443) (by decide +kernel), List.mem_of_getElem? (i := 1444) (by decide +kernel)⟩
theorem lw_p63 : lw_okq (⟨"SightedMonthsModel", "number", "(II)I"⟩, 57) := ⟨⟨by decide +kernel, by decide +kernel⟩, List.mem_of_getElem? (i := 1195) (by decide +kernel), List.mem_of_getElem? (i := 1447) (by decide +kernel), List.mem_of_getElem? (i := 1448) (by decide +kernel)⟩
def lw_privs_4 : List (MethodName × Nat) := [(⟨"SightedMonths", "endByOfficial", "(II)I"⟩, 16), (⟨"SightedMonths", "leastLead", "(ILSightedMonths$Deed;LSightedMonths$Deed;)I"⟩, 16), (⟨"SightedMonthsModel", "movesAll", "(Z)V"⟩, 57), (⟨"SightedMonthsModel", "moves", "(I)I"⟩, 57), (⟨"SightedMonthsModel", "movesRow", "([I)V"⟩, 57), (⟨"SightedMonthsModel", "next", "()V"⟩, 57), (⟨"SightedMonthsModel", "isAt", "(II)Z"⟩, 57), (⟨"SightedMonthsModel", "readsLine", "()V"⟩, 57), (⟨"SightedMonthsModel", "readsHead", "()V"⟩, 57), (⟨"SightedMonthsModel", "word", "(Ljava/lang/String;)V"⟩, 57), (⟨"SightedMonthsModel", "isWord", "(Ljava/lang/String;)Z"⟩, 57), (⟨"SightedMonthsModel", "passes", "(Z)V"⟩, 57), (⟨"SightedMonthsModel", "faults", "(I)V"⟩, 57), (⟨"SightedMonthsModel", "faultsAt", "(II)V"⟩, 57), (⟨"SightedMonthsModel", "numberBehind", "(Ljava/lang/String;II)I"⟩, 57), (⟨"SightedMonthsModel", "number", "(II)I"⟩, 57)]
theorem lw_r4 : ∀ q ∈ lw_privs_4, lw_okq q := List.forall_mem_cons.mpr ⟨lw_p48, List.forall_mem_cons.mpr ⟨lw_p49, List.forall_mem_cons.mpr ⟨lw_p50, List.forall_mem_cons.mpr ⟨lw_p51, List.forall_mem_cons.mpr ⟨lw_p52, List.forall_mem_cons.mpr ⟨lw_p53, List.forall_mem_cons.mpr ⟨lw_p54, List.forall_mem_cons.mpr ⟨lw_p55, List.forall_mem_cons.mpr ⟨lw_p56, List.forall_mem_cons.mpr ⟨lw_p57, List.forall_mem_cons.mpr ⟨lw_p58, List.forall_mem_cons.mpr ⟨lw_p59, List.forall_mem_cons.mpr ⟨lw_p60, List.forall_mem_cons.mpr ⟨lw_p61, List.forall_mem_cons.mpr ⟨lw_p62, List.forall_mem_cons.mpr ⟨lw_p63, fun _ h => absurd h List.not_mem_nil⟩⟩⟩⟩⟩⟩⟩⟩⟩⟩⟩⟩⟩⟩⟩⟩
theorem lw_p64 : lw_okq (⟨"SightedMonthsModel", "readsMoon", "()V"⟩, 57) := ⟨⟨by decide +kernel, by decide +kernel⟩, List.mem_of_getElem? (i := 1195) (by decide +kernel), List.mem_of_getElem? (i := 1454) (by decide +kernel), List.mem_of_getElem? (i := 1455) (by decide +kernel)⟩
theorem lw_p65 : lw_okq (⟨"SightedMonthsModel", "readsPlace", "()V"⟩, 57) := ⟨⟨by decide +kernel, by decide +kernel⟩, List.mem_of_getElem? (i := 1195) (by decide +kernel), List.mem_of_getElem? (i := 1461) (by decide +kernel), List.mem_of_getElem? (i := 1462) (by decide +kernel)⟩
theorem lw_p66 : lw_okq (⟨"SightedMonthsModel", "named", "()I"⟩, 57) := ⟨⟨by decide +kernel, by decide +kernel⟩, List.mem_of_getElem? (i := 1195) (by decide +kernel), List.mem_of_getElem? (i := 1465) (by decide +kernel), List.mem_of_getElem? (i := 1466) (by decide +kernel)⟩
theorem lw_p67 : lw_okq (⟨"SightedMonthsModel", "readsReport", "(I)V"⟩, 57) := ⟨⟨by decide +kernel, by decide +kernel⟩, List.mem_of_getElem? (i := 1195) (by decide +kernel), List.mem_of_getElem? (i := 1473) (by decide +kernel), List.mem_of_getElem? (i := 1474) (by decide +kernel)⟩
theorem lw_p68 : lw_okq (⟨"SightedMonthsModel", "placeHere", "()I"⟩, 57) := ⟨⟨by decide +kernel, by decide +kernel⟩, List.mem_of_getElem? (i := 1195) (by decide +kernel), List.mem_of_getElem? (i := 1477) (by decide +kernel), List.mem_of_getElem? (i := 1478) (by decide +kernel)⟩
theorem lw_p69 : lw_okq (⟨"SightedMonthsModel", "lays", "(IIIII)V"⟩, 57) := ⟨⟨by decide +kernel, by decide +kernel⟩, List.mem_of_getElem? (i := 1195) (by decide +kernel), List.mem_of_getElem? (i := 1485) (by decide +kernel), List.mem_of_getElem? (i := 1486) (by decide +kernel)⟩
theorem lw_p70 : lw_okq (⟨"SightedMonthsModel", "readsDeed", "()V"⟩, 57) := ⟨⟨by decide +kernel, by decide +kernel⟩, List.mem_of_getElem? (i := 1195) (by decide +kernel), List.mem_of_getElem? (i := 1490) (by decide +kernel), List.mem_of_getElem? (i := 1491) (by decide +kernel)⟩
theorem lw_p71 : lw_okq (⟨"SightedMonthsModel", "isPlace", "(I)Z"⟩, 57) := ⟨⟨by decide +kernel, by decide +kernel⟩, List.mem_of_getElem? (i := 1195) (by decide +kernel), List.mem_of_getElem? (i := 1509) (by decide +kernel), List.mem_of_getElem? (i := 1510) (by decide +kernel)⟩
theorem lw_p72 : lw_okq (⟨"SightedMonthsModel", "isNameAhead", "(II)Z"⟩, 57) := ⟨⟨by decide +kernel, by decide +kernel⟩, List.mem_of_getElem? (i := 1195) (by decide +kernel), List.mem_of_getElem? (i := 1514) (by decide +kernel), List.mem_of_getElem? (i := 1515) (by decide +kernel)⟩
theorem lw_p73 : lw_okq (⟨"SightedMonthsModel", "isReport", "(I)Z"⟩, 57) := ⟨⟨by decide +kernel, by decide +kernel⟩, List.mem_of_getElem? (i := 1195) (by decide +kernel), List.mem_of_getElem? (i := 1522) (by decide +kernel), List.mem_of_getElem? (i := 1523) (by decide +kernel)⟩
theorem lw_p74 : lw_okq (⟨"SightedMonthsModel", "isDeed", "(I)Z"⟩, 57) := ⟨⟨by decide +kernel, by decide +kernel⟩, List.mem_of_getElem? (i := 1195) (by decide +kernel), List.mem_of_getElem? (i := 1530) (by decide +kernel), List.mem_of_getElem? (i := 1531) (by decide +kernel)⟩
theorem lw_p75 : lw_okq (⟨"SightedMonthsModel", "earlyOf", "(I)I"⟩, 57) := ⟨⟨by decide +kernel, by decide +kernel⟩, List.mem_of_getElem? (i := 1195) (by decide +kernel), List.mem_of_getElem? (i := 1538) (by decide +kernel), List.mem_of_getElem? (i := 1539) (by decide +kernel)⟩
theorem lw_p76 : lw_okq (⟨"SightedMonthsModel", "isTime", "(I)Z"⟩, 57) := ⟨⟨by decide +kernel, by decide +kernel⟩, List.mem_of_getElem? (i := 1195) (by decide +kernel), List.mem_of_getElem? (i := 1546) (by decide +kernel), List.mem_of_getElem? (i := 1547) (by decide +kernel)⟩
theorem lw_p77 : lw_okq (⟨"SightedMonthsModel", "judgesAll", "(I)V"⟩, 57) := ⟨⟨by decide +kernel, by decide +kernel⟩, List.mem_of_getElem? (i := 1195) (by decide +kernel), List.mem_of_getElem? (i := 1551) (by decide +kernel), List.mem_of_getElem? (i := 1552) (by decide +kernel)⟩
theorem lw_p78 : lw_okq (⟨"SightedMonthsModel", "frees", "()V"⟩, 57) := ⟨⟨by decide +kernel, by decide +kernel⟩, List.mem_of_getElem? (i := 1195) (by decide +kernel), List.mem_of_getElem? (i := 1555) (by decide +kernel), List.mem_of_getElem? (i := 1556) (by decide +kernel)⟩
theorem lw_p79 : lw_okq (⟨"SightedMonthsModel", "unpins", "()V"⟩, 57) := ⟨⟨by decide +kernel, by decide +kernel⟩, List.mem_of_getElem? (i := 1195) (by decide +kernel), List.mem_of_getElem? (i := 1559) (by decide +kernel), List.mem_of_getElem? (i := 1560) (by decide +kernel)⟩
def lw_privs_5 : List (MethodName × Nat) := [(⟨"SightedMonthsModel", "readsMoon", "()V"⟩, 57), (⟨"SightedMonthsModel", "readsPlace", "()V"⟩, 57), (⟨"SightedMonthsModel", "named", "()I"⟩, 57), (⟨"SightedMonthsModel", "readsReport", "(I)V"⟩, 57), (⟨"SightedMonthsModel", "placeHere", "()I"⟩, 57), (⟨"SightedMonthsModel", "lays", "(IIIII)V"⟩, 57), (⟨"SightedMonthsModel", "readsDeed", "()V"⟩, 57), (⟨"SightedMonthsModel", "isPlace", "(I)Z"⟩, 57), (⟨"SightedMonthsModel", "isNameAhead", "(II)Z"⟩, 57), (⟨"SightedMonthsModel", "isReport", "(I)Z"⟩, 57), (⟨"SightedMonthsModel", "isDeed", "(I)Z"⟩, 57), (⟨"SightedMonthsModel", "earlyOf", "(I)I"⟩, 57), (⟨"SightedMonthsModel", "isTime", "(I)Z"⟩, 57), (⟨"SightedMonthsModel", "judgesAll", "(I)V"⟩, 57), (⟨"SightedMonthsModel", "frees", "()V"⟩, 57), (⟨"SightedMonthsModel", "unpins", "()V"⟩, 57)]
theorem lw_r5 : ∀ q ∈ lw_privs_5, lw_okq q := List.forall_mem_cons.mpr ⟨lw_p64, List.forall_mem_cons.mpr ⟨lw_p65, List.forall_mem_cons.mpr ⟨lw_p66, List.forall_mem_cons.mpr ⟨lw_p67, List.forall_mem_cons.mpr ⟨lw_p68, List.forall_mem_cons.mpr ⟨lw_p69, List.forall_mem_cons.mpr ⟨lw_p70, List.forall_mem_cons.mpr ⟨lw_p71, List.forall_mem_cons.mpr ⟨lw_p72, List.forall_mem_cons.mpr ⟨lw_p73, List.forall_mem_cons.mpr ⟨lw_p74, List.forall_mem_cons.mpr ⟨lw_p75, List.forall_mem_cons.mpr ⟨lw_p76, List.forall_mem_cons.mpr ⟨lw_p77, List.forall_mem_cons.mpr ⟨lw_p78, List.forall_mem_cons.mpr ⟨lw_p79, fun _ h => absurd h List.not_mem_nil⟩⟩⟩⟩⟩⟩⟩⟩⟩⟩⟩⟩⟩⟩⟩⟩
theorem lw_p80 : lw_okq (⟨"SightedMonthsModel", "laysRow", "(I)V"⟩, 57) := ⟨⟨by decide +kernel, by decide +kernel⟩, List.mem_of_getElem? (i := 1195) (by decide +kernel), List.mem_of_getElem? (i := 1563) (by decide +kernel), List.mem_of_getElem? (i := 1564) (by decide +kernel)⟩
theorem lw_p81 : lw_okq (⟨"SightedMonthsModel", "isKnown", "(II)Z"⟩, 57) := ⟨⟨by decide +kernel, by decide +kernel⟩, List.mem_of_getElem? (i := 1195) (by decide +kernel), List.mem_of_getElem? (i := 1567) (by decide +kernel), List.mem_of_getElem? (i := 1568) (by decide +kernel)⟩
theorem lw_p82 : lw_okq (⟨"SightedMonthsModel", "isAhead", "(II)Z"⟩, 57) := ⟨⟨by decide +kernel, by decide +kernel⟩, List.mem_of_getElem? (i := 1195) (by decide +kernel), List.mem_of_getElem? (i := 1571) (by decide +kernel), List.mem_of_getElem? (i := 1572) (by decide +kernel)⟩
theorem lw_p83 : lw_okq (⟨"SightedMonthsModel", "trustOf", "(I)I"⟩, 57) := ⟨⟨by decide +kernel, by decide +kernel⟩, List.mem_of_getElem? (i := 1195) (by decide +kernel), List.mem_of_getElem? (i := 1575) (by decide +kernel), List.mem_of_getElem? (i := 1576) (by decide +kernel)⟩
theorem lw_p84 : lw_okq (⟨"SightedMonthsModel", "judges", "(I)I"⟩, 57) := ⟨⟨by decide +kernel, by decide +kernel⟩, List.mem_of_getElem? (i := 1195) (by decide +kernel), List.mem_of_getElem? (i := 1579) (by decide +kernel), List.mem_of_getElem? (i := 1580) (by decide +kernel)⟩
theorem lw_p85 : lw_okq (⟨"SightedMonthsModel", "holds", "(I)V"⟩, 57) := ⟨⟨by decide +kernel, by decide +kernel⟩, List.mem_of_getElem? (i := 1195) (by decide +kernel), List.mem_of_getElem? (i := 1583) (by decide +kernel), List.mem_of_getElem? (i := 1584) (by decide +kernel)⟩
theorem lw_p86 : lw_okq (⟨"SightedMonthsModel", "counts", "()I"⟩, 57) := ⟨⟨by decide +kernel, by decide +kernel⟩, List.mem_of_getElem? (i := 1195) (by decide +kernel), List.mem_of_getElem? (i := 1587) (by decide +kernel), List.mem_of_getElem? (i := 1588) (by decide +kernel)⟩
theorem lw_p87 : lw_okq (⟨"SightedMonthsModel", "isOpen", "(II)Z"⟩, 57) := ⟨⟨by decide +kernel, by decide +kernel⟩, List.mem_of_getElem? (i := 1195) (by decide +kernel), List.mem_of_getElem? (i := 1591) (by decide +kernel), List.mem_of_getElem? (i := 1592) (by decide +kernel)⟩
theorem lw_p88 : lw_okq (⟨"SightedMonthsModel", "waysBy", "(IIII)I"⟩, 57) := ⟨⟨by decide +kernel, by decide +kernel⟩, List.mem_of_getElem? (i := 1195) (by decide +kernel), List.mem_of_getElem? (i := 1595) (by decide +kernel), List.mem_of_getElem? (i := 1596) (by decide +kernel)⟩
theorem lw_p89 : lw_okq (⟨"SightedMonthsModel", "runBehind", "(II)I"⟩, 57) := ⟨⟨by decide +kernel, by decide +kernel⟩, List.mem_of_getElem? (i := 1195) (by decide +kernel), List.mem_of_getElem? (i := 1599) (by decide +kernel), List.mem_of_getElem? (i := 1600) (by decide +kernel)⟩
theorem lw_p90 : lw_okq (⟨"SightedMonthsModel", "takenBits", "()I"⟩, 57) := ⟨⟨by decide +kernel, by decide +kernel⟩, List.mem_of_getElem? (i := 1195) (by decide +kernel), List.mem_of_getElem? (i := 1610) (by decide +kernel), List.mem_of_getElem? (i := 1611) (by decide +kernel)⟩
theorem lw_p91 : lw_okq (⟨"SightedMonthsModel", "areBoth", "(II)Z"⟩, 57) := ⟨⟨by decide +kernel, by decide +kernel⟩, List.mem_of_getElem? (i := 1195) (by decide +kernel), List.mem_of_getElem? (i := 1623) (by decide +kernel), List.mem_of_getElem? (i := 1624) (by decide +kernel)⟩
theorem lw_p92 : lw_okq (⟨"SightedMonthsModel", "isBegin", "(I)Z"⟩, 57) := ⟨⟨by decide +kernel, by decide +kernel⟩, List.mem_of_getElem? (i := 1195) (by decide +kernel), List.mem_of_getElem? (i := 1647) (by decide +kernel), List.mem_of_getElem? (i := 1648) (by decide +kernel)⟩
theorem lw_p93 : lw_okq (⟨"SightedMonthsModel", "officialBy", "(I)V"⟩, 57) := ⟨⟨by decide +kernel, by decide +kernel⟩, List.mem_of_getElem? (i := 1195) (by decide +kernel), List.mem_of_getElem? (i := 1651) (by decide +kernel), List.mem_of_getElem? (i := 1652) (by decide +kernel)⟩
theorem lw_p94 : lw_okq (⟨"SightedMonthsModel", "laysOfficial", "()V"⟩, 57) := ⟨⟨by decide +kernel, by decide +kernel⟩, List.mem_of_getElem? (i := 1195) (by decide +kernel), List.mem_of_getElem? (i := 1655) (by decide +kernel), List.mem_of_getElem? (i := 1656) (by decide +kernel)⟩
theorem lw_p95 : lw_okq (⟨"SightedMonthsModel", "spanOf", "(II)I"⟩, 57) := ⟨⟨by decide +kernel, by decide +kernel⟩, List.mem_of_getElem? (i := 1195) (by decide +kernel), List.mem_of_getElem? (i := 1663) (by decide +kernel), List.mem_of_getElem? (i := 1664) (by decide +kernel)⟩
def lw_privs_6 : List (MethodName × Nat) := [(⟨"SightedMonthsModel", "laysRow", "(I)V"⟩, 57), (⟨"SightedMonthsModel", "isKnown", "(II)Z"⟩, 57), (⟨"SightedMonthsModel", "isAhead", "(II)Z"⟩, 57), (⟨"SightedMonthsModel", "trustOf", "(I)I"⟩, 57), (⟨"SightedMonthsModel", "judges", "(I)I"⟩, 57), (⟨"SightedMonthsModel", "holds", "(I)V"⟩, 57), (⟨"SightedMonthsModel", "counts", "()I"⟩, 57), (⟨"SightedMonthsModel", "isOpen", "(II)Z"⟩, 57), (⟨"SightedMonthsModel", "waysBy", "(IIII)I"⟩, 57), (⟨"SightedMonthsModel", "runBehind", "(II)I"⟩, 57), (⟨"SightedMonthsModel", "takenBits", "()I"⟩, 57), (⟨"SightedMonthsModel", "areBoth", "(II)Z"⟩, 57), (⟨"SightedMonthsModel", "isBegin", "(I)Z"⟩, 57), (⟨"SightedMonthsModel", "officialBy", "(I)V"⟩, 57), (⟨"SightedMonthsModel", "laysOfficial", "()V"⟩, 57), (⟨"SightedMonthsModel", "spanOf", "(II)I"⟩, 57)]
theorem lw_r6 : ∀ q ∈ lw_privs_6, lw_okq q := List.forall_mem_cons.mpr ⟨lw_p80, List.forall_mem_cons.mpr ⟨lw_p81, List.forall_mem_cons.mpr ⟨lw_p82, List.forall_mem_cons.mpr ⟨lw_p83, List.forall_mem_cons.mpr ⟨lw_p84, List.forall_mem_cons.mpr ⟨lw_p85, List.forall_mem_cons.mpr ⟨lw_p86, List.forall_mem_cons.mpr ⟨lw_p87, List.forall_mem_cons.mpr ⟨lw_p88, List.forall_mem_cons.mpr ⟨lw_p89, List.forall_mem_cons.mpr ⟨lw_p90, List.forall_mem_cons.mpr ⟨lw_p91, List.forall_mem_cons.mpr ⟨lw_p92, List.forall_mem_cons.mpr ⟨lw_p93, List.forall_mem_cons.mpr ⟨lw_p94, List.forall_mem_cons.mpr ⟨lw_p95, fun _ h => absurd h List.not_mem_nil⟩⟩⟩⟩⟩⟩⟩⟩⟩⟩⟩⟩⟩⟩⟩⟩
theorem lw_p96 : lw_okq (⟨"SightedMonthsModel", "beginsOn", "(II)I"⟩, 57) := ⟨⟨by decide +kernel, by decide +kernel⟩, List.mem_of_getElem? (i := 1195) (by decide +kernel), List.mem_of_getElem? (i := 1667) (by decide +kernel), List.mem_of_getElem? (i := 1668) (by decide +kernel)⟩
theorem lw_p97 : lw_okq (⟨"SightedMonthsModel", "countsWith", "(IIII)I"⟩, 57) := ⟨⟨by decide +kernel, by decide +kernel⟩, List.mem_of_getElem? (i := 1195) (by decide +kernel), List.mem_of_getElem? (i := 1671) (by decide +kernel), List.mem_of_getElem? (i := 1672) (by decide +kernel)⟩
theorem lw_p98 : lw_okq (⟨"SightedMonthsModel", "isMonth", "(I)Z"⟩, 57) := ⟨⟨by decide +kernel, by decide +kernel⟩, List.mem_of_getElem? (i := 1195) (by decide +kernel), List.mem_of_getElem? (i := 1683) (by decide +kernel), List.mem_of_getElem? (i := 1684) (by decide +kernel)⟩
theorem lw_p99 : lw_okq (⟨"SightedMonthsModel", "laysRanked", "(I)V"⟩, 57) := ⟨⟨by decide +kernel, by decide +kernel⟩, List.mem_of_getElem? (i := 1195) (by decide +kernel), List.mem_of_getElem? (i := 1699) (by decide +kernel), List.mem_of_getElem? (i := 1700) (by decide +kernel)⟩
theorem lw_p100 : lw_okq (⟨"SightedMonthsModel", "dayBy", "(II)I"⟩, 57) := ⟨⟨by decide +kernel, by decide +kernel⟩, List.mem_of_getElem? (i := 1195) (by decide +kernel), List.mem_of_getElem? (i := 1720) (by decide +kernel), List.mem_of_getElem? (i := 1721) (by decide +kernel)⟩
theorem lw_p101 : lw_okq (⟨"SightedMonthsModel", "lengthBy", "(I)I"⟩, 57) := ⟨⟨by decide +kernel, by decide +kernel⟩, List.mem_of_getElem? (i := 1195) (by decide +kernel), List.mem_of_getElem? (i := 1724) (by decide +kernel), List.mem_of_getElem? (i := 1725) (by decide +kernel)⟩
theorem lw_p102 : lw_okq (⟨"SightedMonthsModel", "datesWith", "(III)I"⟩, 57) := ⟨⟨by decide +kernel, by decide +kernel⟩, List.mem_of_getElem? (i := 1195) (by decide +kernel), List.mem_of_getElem? (i := 1736) (by decide +kernel), List.mem_of_getElem? (i := 1737) (by decide +kernel)⟩
theorem lw_p103 : lw_okq (⟨"SightedMonthsModel", "fallsOn", "(III)I"⟩, 57) := ⟨⟨by decide +kernel, by decide +kernel⟩, List.mem_of_getElem? (i := 1195) (by decide +kernel), List.mem_of_getElem? (i := 1749) (by decide +kernel), List.mem_of_getElem? (i := 1750) (by decide +kernel)⟩
theorem lw_p104 : lw_okq (⟨"SightedMonthsModel", "follows", "(II)V"⟩, 57) := ⟨⟨by decide +kernel, by decide +kernel⟩, List.mem_of_getElem? (i := 1195) (by decide +kernel), List.mem_of_getElem? (i := 1761) (by decide +kernel), List.mem_of_getElem? (i := 1762) (by decide +kernel)⟩
theorem lw_p105 : lw_okq (⟨"SightedMonthsModel", "dueBy", "(I)I"⟩, 57) := ⟨⟨by decide +kernel, by decide +kernel⟩, List.mem_of_getElem? (i := 1195) (by decide +kernel), List.mem_of_getElem? (i := 1765) (by decide +kernel), List.mem_of_getElem? (i := 1766) (by decide +kernel)⟩
theorem lw_p106 : lw_okq (⟨"SightedMonthsModel", "monthOf", "(I)I"⟩, 57) := ⟨⟨by decide +kernel, by decide +kernel⟩, List.mem_of_getElem? (i := 1195) (by decide +kernel), List.mem_of_getElem? (i := 1769) (by decide +kernel), List.mem_of_getElem? (i := 1770) (by decide +kernel)⟩
theorem lw_p107 : lw_okq (⟨"SightedMonthsModel", "behindOf", "(I)I"⟩, 57) := ⟨⟨by decide +kernel, by decide +kernel⟩, List.mem_of_getElem? (i := 1195) (by decide +kernel), List.mem_of_getElem? (i := 1773) (by decide +kernel), List.mem_of_getElem? (i := 1774) (by decide +kernel)⟩
theorem lw_p108 : lw_okq (⟨"SightedMonthsModel", "nextTime", "(I)I"⟩, 57) := ⟨⟨by decide +kernel, by decide +kernel⟩, List.mem_of_getElem? (i := 1195) (by decide +kernel), List.mem_of_getElem? (i := 1777) (by decide +kernel), List.mem_of_getElem? (i := 1778) (by decide +kernel)⟩
theorem lw_p109 : lw_okq (⟨"SightedMonthsModel", "dueSpanOf", "(II)I"⟩, 57) := ⟨⟨by decide +kernel, by decide +kernel⟩, List.mem_of_getElem? (i := 1195) (by decide +kernel), List.mem_of_getElem? (i := 1793) (by decide +kernel), List.mem_of_getElem? (i := 1794) (by decide +kernel)⟩
theorem lw_p110 : lw_okq (⟨"SightedMonthsModel", "duesOn", "(II)I"⟩, 57) := ⟨⟨by decide +kernel, by decide +kernel⟩, List.mem_of_getElem? (i := 1195) (by decide +kernel), List.mem_of_getElem? (i := 1797) (by decide +kernel), List.mem_of_getElem? (i := 1798) (by decide +kernel)⟩
theorem lw_p111 : lw_okq (⟨"SightedMonthsModel", "compares", "(II)V"⟩, 57) := ⟨⟨by decide +kernel, by decide +kernel⟩, List.mem_of_getElem? (i := 1195) (by decide +kernel), List.mem_of_getElem? (i := 1817) (by decide +kernel), List.mem_of_getElem? (i := 1818) (by decide +kernel)⟩
def lw_privs_7 : List (MethodName × Nat) := [(⟨"SightedMonthsModel", "beginsOn", "(II)I"⟩, 57), (⟨"SightedMonthsModel", "countsWith", "(IIII)I"⟩, 57), (⟨"SightedMonthsModel", "isMonth", "(I)Z"⟩, 57), (⟨"SightedMonthsModel", "laysRanked", "(I)V"⟩, 57), (⟨"SightedMonthsModel", "dayBy", "(II)I"⟩, 57), (⟨"SightedMonthsModel", "lengthBy", "(I)I"⟩, 57), (⟨"SightedMonthsModel", "datesWith", "(III)I"⟩, 57), (⟨"SightedMonthsModel", "fallsOn", "(III)I"⟩, 57), (⟨"SightedMonthsModel", "follows", "(II)V"⟩, 57), (⟨"SightedMonthsModel", "dueBy", "(I)I"⟩, 57), (⟨"SightedMonthsModel", "monthOf", "(I)I"⟩, 57), (⟨"SightedMonthsModel", "behindOf", "(I)I"⟩, 57), (⟨"SightedMonthsModel", "nextTime", "(I)I"⟩, 57), (⟨"SightedMonthsModel", "dueSpanOf", "(II)I"⟩, 57), (⟨"SightedMonthsModel", "duesOn", "(II)I"⟩, 57), (⟨"SightedMonthsModel", "compares", "(II)V"⟩, 57)]
theorem lw_r7 : ∀ q ∈ lw_privs_7, lw_okq q := List.forall_mem_cons.mpr ⟨lw_p96, List.forall_mem_cons.mpr ⟨lw_p97, List.forall_mem_cons.mpr ⟨lw_p98, List.forall_mem_cons.mpr ⟨lw_p99, List.forall_mem_cons.mpr ⟨lw_p100, List.forall_mem_cons.mpr ⟨lw_p101, List.forall_mem_cons.mpr ⟨lw_p102, List.forall_mem_cons.mpr ⟨lw_p103, List.forall_mem_cons.mpr ⟨lw_p104, List.forall_mem_cons.mpr ⟨lw_p105, List.forall_mem_cons.mpr ⟨lw_p106, List.forall_mem_cons.mpr ⟨lw_p107, List.forall_mem_cons.mpr ⟨lw_p108, List.forall_mem_cons.mpr ⟨lw_p109, List.forall_mem_cons.mpr ⟨lw_p110, List.forall_mem_cons.mpr ⟨lw_p111, fun _ h => absurd h List.not_mem_nil⟩⟩⟩⟩⟩⟩⟩⟩⟩⟩⟩⟩⟩⟩⟩⟩
theorem lw_p112 : lw_okq (⟨"SightedMonthsModel", "ownBy", "(II)V"⟩, 57) := ⟨⟨by decide +kernel, by decide +kernel⟩, List.mem_of_getElem? (i := 1195) (by decide +kernel), List.mem_of_getElem? (i := 1825) (by decide +kernel), List.mem_of_getElem? (i := 1826) (by decide +kernel)⟩
theorem lw_p113 : lw_okq (⟨"SightedMonthsModel", "keepsOfficial", "()V"⟩, 57) := ⟨⟨by decide +kernel, by decide +kernel⟩, List.mem_of_getElem? (i := 1195) (by decide +kernel), List.mem_of_getElem? (i := 1833) (by decide +kernel), List.mem_of_getElem? (i := 1834) (by decide +kernel)⟩
theorem lw_p114 : lw_okq (⟨"SightedMonthsModel", "unlike", "()I"⟩, 57) := ⟨⟨by decide +kernel, by decide +kernel⟩, List.mem_of_getElem? (i := 1195) (by decide +kernel), List.mem_of_getElem? (i := 1837) (by decide +kernel), List.mem_of_getElem? (i := 1838) (by decide +kernel)⟩
theorem lw_p115 : lw_okq (⟨"SightedMonthsModel", "laysWorth", "(IZ)I"⟩, 57) := ⟨⟨by decide +kernel, by decide +kernel⟩, List.mem_of_getElem? (i := 1195) (by decide +kernel), List.mem_of_getElem? (i := 1857) (by decide +kernel), List.mem_of_getElem? (i := 1858) (by decide +kernel)⟩
theorem lw_p116 : lw_okq (⟨"SightedMonthsModel", "costOf", "(IIIZ)I"⟩, 57) := ⟨⟨by decide +kernel, by decide +kernel⟩, List.mem_of_getElem? (i := 1195) (by decide +kernel), List.mem_of_getElem? (i := 1861) (by decide +kernel), List.mem_of_getElem? (i := 1862) (by decide +kernel)⟩
theorem lw_p117 : lw_okq (⟨"SightedMonthsModel", "worthBy", "(IIII)I"⟩, 57) := ⟨⟨by decide +kernel, by decide +kernel⟩, List.mem_of_getElem? (i := 1195) (by decide +kernel), List.mem_of_getElem? (i := 1867) (by decide +kernel), List.mem_of_getElem? (i := 1868) (by decide +kernel)⟩
def lw_privs_8 : List (MethodName × Nat) := [(⟨"SightedMonthsModel", "ownBy", "(II)V"⟩, 57), (⟨"SightedMonthsModel", "keepsOfficial", "()V"⟩, 57), (⟨"SightedMonthsModel", "unlike", "()I"⟩, 57), (⟨"SightedMonthsModel", "laysWorth", "(IZ)I"⟩, 57), (⟨"SightedMonthsModel", "costOf", "(IIIZ)I"⟩, 57), (⟨"SightedMonthsModel", "worthBy", "(IIII)I"⟩, 57)]
theorem lw_r8 : ∀ q ∈ lw_privs_8, lw_okq q := List.forall_mem_cons.mpr ⟨lw_p112, List.forall_mem_cons.mpr ⟨lw_p113, List.forall_mem_cons.mpr ⟨lw_p114, List.forall_mem_cons.mpr ⟨lw_p115, List.forall_mem_cons.mpr ⟨lw_p116, List.forall_mem_cons.mpr ⟨lw_p117, fun _ h => absurd h List.not_mem_nil⟩⟩⟩⟩⟩⟩
def lw_privs : List (MethodName × Nat) := lw_privs_1 ++ (lw_privs_2 ++ (lw_privs_3 ++ (lw_privs_4 ++ (lw_privs_5 ++ (lw_privs_6 ++ (lw_privs_7 ++ (lw_privs_8)))))))
def lw_tbl : List Cond := k2_sels lw_privs ++ tables_1
theorem lw_privs_ok : ∀ q ∈ lw_privs, lw_okq q := by
  show ∀ q ∈ lw_privs_1 ++ (lw_privs_2 ++ (lw_privs_3 ++ (lw_privs_4 ++ (lw_privs_5 ++ (lw_privs_6 ++ (lw_privs_7 ++ (lw_privs_8))))))), lw_okq q
  exact List.forall_mem_append.mpr ⟨lw_r1, List.forall_mem_append.mpr ⟨lw_r2, List.forall_mem_append.mpr ⟨lw_r3, List.forall_mem_append.mpr ⟨lw_r4, List.forall_mem_append.mpr ⟨lw_r5, List.forall_mem_append.mpr ⟨lw_r6, List.forall_mem_append.mpr ⟨lw_r7, lw_r8⟩⟩⟩⟩⟩⟩⟩
end
section
/-! ===== BEGIN words of one list among another's, by their places ===== -/
theorem goodIn_r {big : List Cond} (ws : List Cond) (ps : List Nat) (hp : ws = ps.filterMap (fun i => big[i]?)) (h : ws.all goodWord = true) : GoodIn big ws := by
  intro w hw
  have h1 := List.all_eq_true.mp h w hw
  rw [hp] at hw
  obtain ⟨i, -, hi⟩ := List.mem_filterMap.mp hw
  have hm : w ∈ big := by first | exact List.mem_of_getElem? hi | exact List.getElem?_mem hi
  exact ⟨hm, good_of_word h1⟩
theorem goodIn_app {big a b : List Cond} (ha : GoodIn big a) (hb : GoodIn big b) : GoodIn big (a ++ b) := fun w h => (List.mem_append.mp h).elim (ha w) (hb w)
theorem goodIn_ca {big a b : List Cond} {c : Cond} (ha : GoodIn big (c :: a)) (hb : GoodIn big b) : GoodIn big (c :: (a ++ b)) := fun w h => (List.mem_cons.mp h).elim (fun e => ha w (List.mem_cons.mpr (Or.inl e))) (fun h => (List.mem_append.mp h).elim (fun h => ha w (List.mem_cons.mpr (Or.inr h))) (hb w))
theorem goodIn_sub {big ws : List Cond} (hm : ∀ w ∈ ws, w ∈ big) (h : ws.all goodWord = true) : GoodIn big ws := fun w hw => ⟨hm w hw, good_of_word (List.all_eq_true.mp h w hw)⟩
/-! ===== END ===== -/

/-! ===== BEGIN printed: names, fields, word lists, decode rows ===== -/
def RX0 : String := "SightedMonths$Almanac"
def TX0 : u_T := fun k => match k with
  | 0 => ("SightedMonths$Almanac", "months", "I", false)
  | 1 => ("SightedMonths$Almanac", "full", "I", false)
  | 2 => ("SightedMonths$Almanac", "lean", "I", false)
  | 3 => ("SightedMonths$Almanac", "lines", "I", false)
  | 4 => ("SightedMonths$Almanac", "hasMoon", "Z", false)
  | 5 => ("SightedMonths$Almanac", "moonStart", "I", false)
  | 6 => ("SightedMonths$Almanac", "moonStep", "I", false)
  | 7 => ("SightedMonths$Almanac", "placeCount", "I", false)
  | 8 => ("SightedMonths$Almanac", "reportCount", "I", false)
  | 9 => ("SightedMonths$Almanac", "deedCount", "I", false)
  | 10 => ("SightedMonths$Almanac", "places", "[LSightedMonths$Place;", true)
  | 11 => ("SightedMonths$Almanac", "reports", "[LSightedMonths$Report;", true)
  | _ => ("SightedMonths$Almanac", "deeds", "[LSightedMonths$Deed;", true)
def tyX0 : Nat → FieldType := fun k => match k with
  | 0 => .int
  | 1 => .int
  | 2 => .int
  | 3 => .int
  | 4 => .boolean
  | 5 => .int
  | 6 => .int
  | 7 => .int
  | 8 => .int
  | 9 => .int
  | 10 => .array (.object "SightedMonths$Place")
  | 11 => .array (.object "SightedMonths$Report")
  | _ => .array (.object "SightedMonths$Deed")
abbrev wsX00 : List Cond := u_ws RX0 TX0 13
theorem nmX0 : ∀ a, a < 13 → ∀ b, b < 13 → a ≠ b → (TX0 a).2.1 ≠ (TX0 b).2.1 := by decide +kernel
theorem tyX0_ok : ∀ k, k < 13 → parseFieldDescriptor (TX0 k).2.2.1 = some (tyX0 k) := by decide +kernel
abbrev cX0_init : ByteArray := prog_2_method_1_code
def yX0_init : MethodName := ⟨RX0, "<init>", "()V"⟩
abbrev cX0_wipe : ByteArray := prog_2_method_2_code
def yX0_wipe : MethodName := ⟨RX0, "wipe", "()V"⟩
abbrev cX0_copyFrom : ByteArray := prog_2_method_3_code
def yX0_copyFrom : MethodName := ⟨RX0, "copyFrom", "(LSightedMonths$Almanac;)V"⟩
abbrev cX0_setMoon : ByteArray := prog_2_method_4_code
def yX0_setMoon : MethodName := ⟨RX0, "setMoon", "(II)V"⟩
abbrev cX0_addPlace : ByteArray := prog_2_method_5_code
def yX0_addPlace : MethodName := ⟨RX0, "addPlace", "(II)V"⟩
abbrev cX0_addReport : ByteArray := prog_2_method_6_code
def yX0_addReport : MethodName := ⟨RX0, "addReport", "(IIIII)V"⟩
abbrev cX0_addDeed : ByteArray := prog_2_method_7_code
def yX0_addDeed : MethodName := ⟨RX0, "addDeed", "(IIIZ)V"⟩
abbrev cX0_placeNamed : ByteArray := prog_2_method_8_code
def yX0_placeNamed : MethodName := ⟨RX0, "placeNamed", "(I)I"⟩
abbrev cX0_namesAhead : ByteArray := prog_2_method_9_code
def yX0_namesAhead : MethodName := ⟨RX0, "namesAhead", "(I)I"⟩
abbrev cX0_standing : ByteArray := prog_2_method_10_code
def yX0_standing : MethodName := ⟨RX0, "standing", "()I"⟩
abbrev cX0_standingOf : ByteArray := prog_2_method_11_code
def yX0_standingOf : MethodName := ⟨RX0, "standingOf", "(I)I"⟩
abbrev cX0_strikeAllBut : ByteArray := prog_2_method_12_code
def yX0_strikeAllBut : MethodName := ⟨RX0, "strikeAllBut", "(I)V"⟩
abbrev cX0_earlyOf : ByteArray := prog_2_method_13_code
def yX0_earlyOf : MethodName := ⟨RX0, "earlyOf", "(I)I"⟩
abbrev cX0_knownBits : ByteArray := prog_2_method_14_code
def yX0_knownBits : MethodName := ⟨RX0, "knownBits", "(I)I"⟩
abbrev cX0_latestNews : ByteArray := prog_2_method_15_code
def yX0_latestNews : MethodName := ⟨RX0, "latestNews", "(I)I"⟩
abbrev cX0_newsBehind : ByteArray := prog_2_method_16_code
def yX0_newsBehind : MethodName := ⟨RX0, "newsBehind", "(I)I"⟩
def RX1 : String := "SightedMonths$Court"
def TX1 : u_T := fun k => match k with
  | 0 => ("SightedMonths$Court", "frame", "LSightedMonths$Frame;", true)
  | 1 => ("SightedMonths$Court", "verdicts", "[I", true)
  | 2 => ("SightedMonths$Court", "queue", "[I", true)
  | 3 => ("SightedMonths$Court", "turns", "[J", true)
  | 4 => ("SightedMonths$Court", "begins", "[I", true)
  | 5 => ("SightedMonths$Court", "queueLength", "I", false)
  | _ => ("SightedMonths$Court", "takenBits", "I", false)
def tyX1 : Nat → FieldType := fun k => match k with
  | 0 => .object "SightedMonths$Frame"
  | 1 => .array .int
  | 2 => .array .int
  | 3 => .array .long
  | 4 => .array .int
  | 5 => .int
  | _ => .int
abbrev wsX10 : List Cond := u_ws RX1 TX1 7
theorem nmX1 : ∀ a, a < 7 → ∀ b, b < 7 → a ≠ b → (TX1 a).2.1 ≠ (TX1 b).2.1 := by decide +kernel
theorem tyX1_ok : ∀ k, k < 7 → parseFieldDescriptor (TX1 k).2.2.1 = some (tyX1 k) := by decide +kernel
abbrev cX1_init : ByteArray := prog_3_method_1_code
def yX1_init : MethodName := ⟨RX1, "<init>", "()V"⟩
abbrev cX1_judge : ByteArray := prog_3_method_2_code
def yX1_judge : MethodName := ⟨RX1, "judge", "(LSightedMonths$Almanac;I)V"⟩
abbrev cX1_lineUp : ByteArray := prog_3_method_3_code
def yX1_lineUp : MethodName := ⟨RX1, "lineUp", "(LSightedMonths$Almanac;I)V"⟩
abbrev cX1_insert : ByteArray := prog_3_method_4_code
def yX1_insert : MethodName := ⟨RX1, "insert", "(IJ)V"⟩
abbrev cX1_turnOf : ByteArray := prog_3_method_5_code
def yX1_turnOf : MethodName := ⟨RX1, "turnOf", "(LSightedMonths$Almanac;I)J"⟩
abbrev cX1_verdictOn : ByteArray := prog_3_method_6_code
def yX1_verdictOn : MethodName := ⟨RX1, "verdictOn", "(LSightedMonths$Almanac;LSightedMonths$Report;)I"⟩
abbrev cX1_lengthOf : ByteArray := prog_3_method_7_code
def yX1_lengthOf : MethodName := ⟨RX1, "lengthOf", "(I)I"⟩
def RX2 : String := "SightedMonths$Deed"
def TX2 : u_T := fun k => match k with
  | 0 => ("SightedMonths$Deed", "month", "I", false)
  | 1 => ("SightedMonths$Deed", "day", "I", false)
  | 2 => ("SightedMonths$Deed", "length", "I", false)
  | _ => ("SightedMonths$Deed", "inDays", "Z", false)
def tyX2 : Nat → FieldType := fun k => match k with
  | 0 => .int
  | 1 => .int
  | 2 => .int
  | _ => .boolean
abbrev wsX20 : List Cond := u_ws RX2 TX2 4
theorem nmX2 : ∀ a, a < 4 → ∀ b, b < 4 → a ≠ b → (TX2 a).2.1 ≠ (TX2 b).2.1 := by decide +kernel
theorem tyX2_ok : ∀ k, k < 4 → parseFieldDescriptor (TX2 k).2.2.1 = some (tyX2 k) := by decide +kernel
abbrev cX2_init : ByteArray := prog_4_method_1_code
def yX2_init : MethodName := ⟨RX2, "<init>", "()V"⟩
abbrev cX2_endAnchor : ByteArray := prog_4_method_2_code
def yX2_endAnchor : MethodName := ⟨RX2, "endAnchor", "()I"⟩
abbrev cX2_endOffset : ByteArray := prog_4_method_3_code
def yX2_endOffset : MethodName := ⟨RX2, "endOffset", "()I"⟩
def RX3 : String := "SightedMonths$Frame"
def TX3 : u_T := fun k => match k with
  | 0 => ("SightedMonths$Frame", "months", "I", false)
  | 1 => ("SightedMonths$Frame", "full", "I", false)
  | 2 => ("SightedMonths$Frame", "lean", "I", false)
  | 3 => ("SightedMonths$Frame", "allowed", "[I", true)
  | _ => ("SightedMonths$Frame", "onward", "[I", true)
def tyX3 : Nat → FieldType := fun k => match k with
  | 0 => .int
  | 1 => .int
  | 2 => .int
  | 3 => .array .int
  | _ => .array .int
abbrev wsX30 : List Cond := u_ws RX3 TX3 5
theorem nmX3 : ∀ a, a < 5 → ∀ b, b < 5 → a ≠ b → (TX3 a).2.1 ≠ (TX3 b).2.1 := by decide +kernel
theorem tyX3_ok : ∀ k, k < 5 → parseFieldDescriptor (TX3 k).2.2.1 = some (tyX3 k) := by decide +kernel
abbrev cX3_init : ByteArray := prog_5_method_1_code
def yX3_init : MethodName := ⟨RX3, "<init>", "()V"⟩
abbrev cX3_open : ByteArray := prog_5_method_2_code
def yX3_open : MethodName := ⟨RX3, "open", "(LSightedMonths$Almanac;)V"⟩
abbrev cX3_rightFor : ByteArray := prog_5_method_3_code
def yX3_rightFor : MethodName := ⟨RX3, "rightFor", "(LSightedMonths$Report;)I"⟩
abbrev cX3_narrow : ByteArray := prog_5_method_4_code
def yX3_narrow : MethodName := ⟨RX3, "narrow", "(LSightedMonths$Report;)V"⟩
abbrev cX3_allows : ByteArray := prog_5_method_5_code
def yX3_allows : MethodName := ⟨RX3, "allows", "(II)Z"⟩
abbrev cX3_fits : ByteArray := prog_5_method_6_code
def yX3_fits : MethodName := ⟨RX3, "fits", "()Z"⟩
abbrev cX3_beginsInto : ByteArray := prog_5_method_7_code
def yX3_beginsInto : MethodName := ⟨RX3, "beginsInto", "([I)V"⟩
def RX4 : String := "SightedMonths$History"
def TX4 : u_T := fun k => match k with
  | 0 => ("SightedMonths$History", "since", "[I", true)
  | 1 => ("SightedMonths$History", "begins", "[I", true)
  | _ => ("SightedMonths$History", "eras", "I", false)
def tyX4 : Nat → FieldType := fun k => match k with
  | 0 => .array .int
  | 1 => .array .int
  | _ => .int
abbrev wsX40 : List Cond := u_ws RX4 TX4 3
theorem nmX4 : ∀ a, a < 3 → ∀ b, b < 3 → a ≠ b → (TX4 a).2.1 ≠ (TX4 b).2.1 := by decide +kernel
theorem tyX4_ok : ∀ k, k < 3 → parseFieldDescriptor (TX4 k).2.2.1 = some (tyX4 k) := by decide +kernel
abbrev cX4_init : ByteArray := prog_6_method_1_code
def yX4_init : MethodName := ⟨RX4, "<init>", "()V"⟩
abbrev cX4_fill : ByteArray := prog_6_method_2_code
def yX4_fill : MethodName := ⟨RX4, "fill", "(LSightedMonths$Almanac;LSightedMonths$Court;)V"⟩
abbrev cX4_changesAt : ByteArray := prog_6_method_3_code
def yX4_changesAt : MethodName := ⟨RX4, "changesAt", "(II)Z"⟩
abbrev cX4_changesOf : ByteArray := prog_6_method_4_code
def yX4_changesOf : MethodName := ⟨RX4, "changesOf", "(I)I"⟩
abbrev cX4_lastChangeOf : ByteArray := prog_6_method_5_code
def yX4_lastChangeOf : MethodName := ⟨RX4, "lastChangeOf", "(I)I"⟩
def RX5 : String := "SightedMonths$Place"
def TX5 : u_T := fun k => match k with
  | 0 => ("SightedMonths$Place", "name", "I", false)
  | _ => ("SightedMonths$Place", "trust", "I", false)
def tyX5 : Nat → FieldType := fun k => match k with
  | 0 => .int
  | _ => .int
abbrev wsX50 : List Cond := u_ws RX5 TX5 2
theorem nmX5 : ∀ a, a < 2 → ∀ b, b < 2 → a ≠ b → (TX5 a).2.1 ≠ (TX5 b).2.1 := by decide +kernel
theorem tyX5_ok : ∀ k, k < 2 → parseFieldDescriptor (TX5 k).2.2.1 = some (tyX5 k) := by decide +kernel
abbrev cX5_init : ByteArray := prog_7_method_1_code
def yX5_init : MethodName := ⟨RX5, "<init>", "()V"⟩
def RX6 : String := "SightedMonths$Reader"
def TX6 : u_T := fun k => match k with
  | 0 => ("SightedMonths$Reader", "tape", "LSightedMonths$Tape;", true)
  | 1 => ("SightedMonths$Reader", "draft", "LSightedMonths$Almanac;", false)
  | 2 => ("SightedMonths$Reader", "faultKind", "I", false)
  | 3 => ("SightedMonths$Reader", "faultPlace", "I", false)
  | 4 => ("SightedMonths$Reader", "token", "I", false)
  | 5 => ("SightedMonths$Reader", "start", "I", false)
  | _ => ("SightedMonths$Reader", "stop", "I", false)
def tyX6 : Nat → FieldType := fun k => match k with
  | 0 => .object "SightedMonths$Tape"
  | 1 => .object "SightedMonths$Almanac"
  | 2 => .int
  | 3 => .int
  | 4 => .int
  | 5 => .int
  | _ => .int
abbrev wsX60 : List Cond := u_ws RX6 TX6 7
theorem nmX6 : ∀ a, a < 7 → ∀ b, b < 7 → a ≠ b → (TX6 a).2.1 ≠ (TX6 b).2.1 := by decide +kernel
theorem tyX6_ok : ∀ k, k < 7 → parseFieldDescriptor (TX6 k).2.2.1 = some (tyX6 k) := by decide +kernel
abbrev cX6_init : ByteArray := prog_8_method_1_code
def yX6_init : MethodName := ⟨RX6, "<init>", "()V"⟩
abbrev cX6_read : ByteArray := prog_8_method_2_code
def yX6_read : MethodName := ⟨RX6, "read", "()V"⟩
abbrev cX6_readLine : ByteArray := prog_8_method_3_code
def yX6_readLine : MethodName := ⟨RX6, "readLine", "()V"⟩
abbrev cX6_readFirst : ByteArray := prog_8_method_4_code
def yX6_readFirst : MethodName := ⟨RX6, "readFirst", "()V"⟩
abbrev cX6_readMoon : ByteArray := prog_8_method_5_code
def yX6_readMoon : MethodName := ⟨RX6, "readMoon", "()V"⟩
abbrev cX6_readPlace : ByteArray := prog_8_method_6_code
def yX6_readPlace : MethodName := ⟨RX6, "readPlace", "()V"⟩
abbrev cX6_readReport : ByteArray := prog_8_method_7_code
def yX6_readReport : MethodName := ⟨RX6, "readReport", "(I)V"⟩
abbrev cX6_readDeed : ByteArray := prog_8_method_8_code
def yX6_readDeed : MethodName := ⟨RX6, "readDeed", "()V"⟩
abbrev cX6_blame : ByteArray := prog_8_method_9_code
def yX6_blame : MethodName := ⟨RX6, "blame", "(II)V"⟩
abbrev cX6_expect : ByteArray := prog_8_method_10_code
def yX6_expect : MethodName := ⟨RX6, "expect", "(ZI)V"⟩
abbrev cX6_passHead : ByteArray := prog_8_method_11_code
def yX6_passHead : MethodName := ⟨RX6, "passHead", "(Z)V"⟩
abbrev cX6_passWord : ByteArray := prog_8_method_12_code
def yX6_passWord : MethodName := ⟨RX6, "passWord", "(Ljava/lang/String;)V"⟩
abbrev cX6_passSign : ByteArray := prog_8_method_13_code
def yX6_passSign : MethodName := ⟨RX6, "passSign", "()V"⟩
abbrev cX6_passNumber : ByteArray := prog_8_method_14_code
def yX6_passNumber : MethodName := ⟨RX6, "passNumber", "(II)I"⟩
abbrev cX6_passName : ByteArray := prog_8_method_15_code
def yX6_passName : MethodName := ⟨RX6, "passName", "(Z)I"⟩
abbrev cX6_nameHere : ByteArray := prog_8_method_16_code
def yX6_nameHere : MethodName := ⟨RX6, "nameHere", "()I"⟩
abbrev cX6_valueHere : ByteArray := prog_8_method_17_code
def yX6_valueHere : MethodName := ⟨RX6, "valueHere", "()I"⟩
abbrev cX6_isWord : ByteArray := prog_8_method_18_code
def yX6_isWord : MethodName := ⟨RX6, "isWord", "(Ljava/lang/String;)Z"⟩
abbrev cX6_step : ByteArray := prog_8_method_19_code
def yX6_step : MethodName := ⟨RX6, "step", "()V"⟩
abbrev cX6_byteAt : ByteArray := prog_8_method_20_code
def yX6_byteAt : MethodName := ⟨RX6, "byteAt", "(I)I"⟩
abbrev cX6_isLetter : ByteArray := prog_8_method_21_code
def yX6_isLetter : MethodName := ⟨RX6, "isLetter", "(I)Z"⟩
abbrev cX6_isDigit : ByteArray := prog_8_method_22_code
def yX6_isDigit : MethodName := ⟨RX6, "isDigit", "(I)Z"⟩
abbrev cX6_isBlank : ByteArray := prog_8_method_23_code
def yX6_isBlank : MethodName := ⟨RX6, "isBlank", "(I)Z"⟩
def RX7 : String := "SightedMonths$Report"
def TX7 : u_T := fun k => match k with
  | 0 => ("SightedMonths$Report", "place", "I", false)
  | 1 => ("SightedMonths$Report", "kind", "I", false)
  | 2 => ("SightedMonths$Report", "month", "I", false)
  | 3 => ("SightedMonths$Report", "day", "I", false)
  | 4 => ("SightedMonths$Report", "known", "I", false)
  | _ => ("SightedMonths$Report", "struck", "Z", false)
def tyX7 : Nat → FieldType := fun k => match k with
  | 0 => .int
  | 1 => .int
  | 2 => .int
  | 3 => .int
  | 4 => .int
  | _ => .boolean
abbrev wsX70 : List Cond := u_ws RX7 TX7 6
theorem nmX7 : ∀ a, a < 6 → ∀ b, b < 6 → a ≠ b → (TX7 a).2.1 ≠ (TX7 b).2.1 := by decide +kernel
theorem tyX7_ok : ∀ k, k < 6 → parseFieldDescriptor (TX7 k).2.2.1 = some (tyX7 k) := by decide +kernel
abbrev cX7_init : ByteArray := prog_9_method_1_code
def yX7_init : MethodName := ⟨RX7, "<init>", "()V"⟩
abbrev cX7_isKnownBy : ByteArray := prog_9_method_2_code
def yX7_isKnownBy : MethodName := ⟨RX7, "isKnownBy", "(I)Z"⟩
def RX8 : String := "SightedMonths$Search"
def TX8 : u_T := fun k => match k with
  | 0 => ("SightedMonths$Search", "costs", "[I", true)
  | 1 => ("SightedMonths$Search", "leasts", "[I", true)
  | 2 => ("SightedMonths$Search", "months", "I", false)
  | 3 => ("SightedMonths$Search", "full", "I", false)
  | _ => ("SightedMonths$Search", "lean", "I", false)
def tyX8 : Nat → FieldType := fun k => match k with
  | 0 => .array .int
  | 1 => .array .int
  | 2 => .int
  | 3 => .int
  | _ => .int
abbrev wsX80 : List Cond := u_ws RX8 TX8 5
theorem nmX8 : ∀ a, a < 5 → ∀ b, b < 5 → a ≠ b → (TX8 a).2.1 ≠ (TX8 b).2.1 := by decide +kernel
theorem tyX8_ok : ∀ k, k < 5 → parseFieldDescriptor (TX8 k).2.2.1 = some (tyX8 k) := by decide +kernel
abbrev cX8_init : ByteArray := prog_10_method_1_code
def yX8_init : MethodName := ⟨RX8, "<init>", "()V"⟩
abbrev cX8_wipe : ByteArray := prog_10_method_2_code
def yX8_wipe : MethodName := ⟨RX8, "wipe", "()V"⟩
abbrev cX8_charge : ByteArray := prog_10_method_3_code
def yX8_charge : MethodName := ⟨RX8, "charge", "(III)V"⟩
abbrev cX8_run : ByteArray := prog_10_method_4_code
def yX8_run : MethodName := ⟨RX8, "run", "(LSightedMonths$Frame;)V"⟩
abbrev cX8_fillCell : ByteArray := prog_10_method_5_code
def yX8_fillCell : MethodName := ⟨RX8, "fillCell", "(II)V"⟩
abbrev cX8_withFull : ByteArray := prog_10_method_6_code
def yX8_withFull : MethodName := ⟨RX8, "withFull", "(III)I"⟩
abbrev cX8_withLean : ByteArray := prog_10_method_7_code
def yX8_withLean : MethodName := ⟨RX8, "withLean", "(III)I"⟩
abbrev cX8_least : ByteArray := prog_10_method_8_code
def yX8_least : MethodName := ⟨RX8, "least", "()I"⟩
abbrev cX8_fullBits : ByteArray := prog_10_method_9_code
def yX8_fullBits : MethodName := ⟨RX8, "fullBits", "()I"⟩
def RX9 : String := "SightedMonths$Tally"
def TX9 : u_T := fun k => match k with
  | 0 => ("SightedMonths$Tally", "before", "[I", true)
  | 1 => ("SightedMonths$Tally", "behind", "[I", true)
  | 2 => ("SightedMonths$Tally", "starts", "[I", true)
  | 3 => ("SightedMonths$Tally", "months", "I", false)
  | 4 => ("SightedMonths$Tally", "full", "I", false)
  | _ => ("SightedMonths$Tally", "lean", "I", false)
def tyX9 : Nat → FieldType := fun k => match k with
  | 0 => .array .int
  | 1 => .array .int
  | 2 => .array .int
  | 3 => .int
  | 4 => .int
  | _ => .int
abbrev wsX90 : List Cond := u_ws RX9 TX9 6
theorem nmX9 : ∀ a, a < 6 → ∀ b, b < 6 → a ≠ b → (TX9 a).2.1 ≠ (TX9 b).2.1 := by decide +kernel
theorem tyX9_ok : ∀ k, k < 6 → parseFieldDescriptor (TX9 k).2.2.1 = some (tyX9 k) := by decide +kernel
abbrev cX9_init : ByteArray := prog_11_method_1_code
def yX9_init : MethodName := ⟨RX9, "<init>", "()V"⟩
abbrev cX9_fill : ByteArray := prog_11_method_2_code
def yX9_fill : MethodName := ⟨RX9, "fill", "(LSightedMonths$Frame;)V"⟩
abbrev cX9_countBefore : ByteArray := prog_11_method_3_code
def yX9_countBefore : MethodName := ⟨RX9, "countBefore", "(LSightedMonths$Frame;)V"⟩
abbrev cX9_takeOnWithFull : ByteArray := prog_11_method_4_code
def yX9_takeOnWithFull : MethodName := ⟨RX9, "takeOnWithFull", "(II)V"⟩
abbrev cX9_takeOnWithLean : ByteArray := prog_11_method_5_code
def yX9_takeOnWithLean : MethodName := ⟨RX9, "takeOnWithLean", "(II)V"⟩
abbrev cX9_countBehind : ByteArray := prog_11_method_6_code
def yX9_countBehind : MethodName := ⟨RX9, "countBehind", "()V"⟩
abbrev cX9_countStarts : ByteArray := prog_11_method_7_code
def yX9_countStarts : MethodName := ⟨RX9, "countStarts", "()V"⟩
abbrev cX9_withFull : ByteArray := prog_11_method_8_code
def yX9_withFull : MethodName := ⟨RX9, "withFull", "(III)I"⟩
abbrev cX9_withLean : ByteArray := prog_11_method_9_code
def yX9_withLean : MethodName := ⟨RX9, "withLean", "(III)I"⟩
abbrev cX9_total : ByteArray := prog_11_method_10_code
def yX9_total : MethodName := ⟨RX9, "total", "()I"⟩
abbrev cX9_onDay : ByteArray := prog_11_method_11_code
def yX9_onDay : MethodName := ⟨RX9, "onDay", "(II)I"⟩
abbrev cX9_onWeekday : ByteArray := prog_11_method_12_code
def yX9_onWeekday : MethodName := ⟨RX9, "onWeekday", "(III)I"⟩
abbrev cX9_bound : ByteArray := prog_11_method_13_code
def yX9_bound : MethodName := ⟨RX9, "bound", "(IZ)I"⟩
abbrev cX9_mostLeft : ByteArray := prog_11_method_14_code
def yX9_mostLeft : MethodName := ⟨RX9, "mostLeft", "(I)I"⟩
abbrev cX9_leanIn : ByteArray := prog_11_method_15_code
def yX9_leanIn : MethodName := ⟨RX9, "leanIn", "(I)I"⟩
abbrev cX9_dated : ByteArray := prog_11_method_16_code
def yX9_dated : MethodName := ⟨RX9, "dated", "(III)I"⟩
abbrev cX9_beginOf : ByteArray := prog_11_method_17_code
def yX9_beginOf : MethodName := ⟨RX9, "beginOf", "(II)I"⟩
abbrev cX9_indexOf : ByteArray := prog_11_method_18_code
def yX9_indexOf : MethodName := ⟨RX9, "indexOf", "(I)I"⟩
def RX10 : String := "SightedMonths$Tape"
def TX10 : u_T := fun k => match k with
  | 0 => ("SightedMonths$Tape", "bytes", "[B", true)
  | _ => ("SightedMonths$Tape", "length", "I", false)
def tyX10 : Nat → FieldType := fun k => match k with
  | 0 => .array .byte
  | _ => .int
abbrev wsX100 : List Cond := u_ws RX10 TX10 2
theorem nmX10 : ∀ a, a < 2 → ∀ b, b < 2 → a ≠ b → (TX10 a).2.1 ≠ (TX10 b).2.1 := by decide +kernel
theorem tyX10_ok : ∀ k, k < 2 → parseFieldDescriptor (TX10 k).2.2.1 = some (tyX10 k) := by decide +kernel
abbrev cX10_init : ByteArray := prog_12_method_1_code
def yX10_init : MethodName := ⟨RX10, "<init>", "()V"⟩
abbrev cX10_put : ByteArray := prog_12_method_2_code
def yX10_put : MethodName := ⟨RX10, "put", "(I)V"⟩
def RX11 : String := "SightedMonths"
def TX11 : u_T := fun k => match k with
  | 0 => ("SightedMonths", "reader", "LSightedMonths$Reader;", true)
  | 1 => ("SightedMonths", "almanac", "LSightedMonths$Almanac;", false)
  | 2 => ("SightedMonths", "spare", "LSightedMonths$Almanac;", true)
  | 3 => ("SightedMonths", "freeFrame", "LSightedMonths$Frame;", true)
  | 4 => ("SightedMonths", "court", "LSightedMonths$Court;", true)
  | 5 => ("SightedMonths", "otherCourt", "LSightedMonths$Court;", true)
  | 6 => ("SightedMonths", "tally", "LSightedMonths$Tally;", true)
  | 7 => ("SightedMonths", "search", "LSightedMonths$Search;", true)
  | 8 => ("SightedMonths", "history", "LSightedMonths$History;", true)
  | 9 => ("SightedMonths", "kept", "[I", true)
  | 10 => ("SightedMonths", "out", "[B", true)
  | 11 => ("SightedMonths", "outLength", "I", false)
  | 12 => ("SightedMonths", "courtStands", "Z", false)
  | 13 => ("SightedMonths", "courtNews", "I", false)
  | 14 => ("SightedMonths", "tallyStands", "Z", false)
  | _ => ("SightedMonths", "historyStands", "Z", false)
def tyX11 : Nat → FieldType := fun k => match k with
  | 0 => .object "SightedMonths$Reader"
  | 1 => .object "SightedMonths$Almanac"
  | 2 => .object "SightedMonths$Almanac"
  | 3 => .object "SightedMonths$Frame"
  | 4 => .object "SightedMonths$Court"
  | 5 => .object "SightedMonths$Court"
  | 6 => .object "SightedMonths$Tally"
  | 7 => .object "SightedMonths$Search"
  | 8 => .object "SightedMonths$History"
  | 9 => .array .int
  | 10 => .array .byte
  | 11 => .int
  | 12 => .boolean
  | 13 => .int
  | 14 => .boolean
  | _ => .boolean
abbrev wsX110 : List Cond := u_ws RX11 TX11 16
theorem nmX11 : ∀ a, a < 16 → ∀ b, b < 16 → a ≠ b → (TX11 a).2.1 ≠ (TX11 b).2.1 := by decide +kernel
theorem tyX11_ok : ∀ k, k < 16 → parseFieldDescriptor (TX11 k).2.2.1 = some (tyX11 k) := by decide +kernel
abbrev cX11_init : ByteArray := prog_1_method_1_code
def yX11_init : MethodName := ⟨RX11, "<init>", "()V"⟩
abbrev cX11_feed : ByteArray := prog_1_method_2_code
def yX11_feed : MethodName := ⟨RX11, "feed", "(IIIII)I"⟩
abbrev cX11_end : ByteArray := prog_1_method_3_code
def yX11_end : MethodName := ⟨RX11, "end", "(I)I"⟩
abbrev cX11_almanac : ByteArray := prog_1_method_4_code
def yX11_almanac : MethodName := ⟨RX11, "almanac", "()I"⟩
abbrev cX11_fault : ByteArray := prog_1_method_5_code
def yX11_fault : MethodName := ⟨RX11, "fault", "(I)I"⟩
abbrev cX11_count : ByteArray := prog_1_method_6_code
def yX11_count : MethodName := ⟨RX11, "count", "(I)I"⟩
abbrev cX11_place : ByteArray := prog_1_method_7_code
def yX11_place : MethodName := ⟨RX11, "place", "(II)I"⟩
abbrev cX11_report : ByteArray := prog_1_method_8_code
def yX11_report : MethodName := ⟨RX11, "report", "(II)I"⟩
abbrev cX11_deed : ByteArray := prog_1_method_9_code
def yX11_deed : MethodName := ⟨RX11, "deed", "(II)I"⟩
abbrev cX11_early : ByteArray := prog_1_method_10_code
def yX11_early : MethodName := ⟨RX11, "early", "(I)I"⟩
abbrev cX11_judged : ByteArray := prog_1_method_11_code
def yX11_judged : MethodName := ⟨RX11, "judged", "(II)I"⟩
abbrev cX11_taken : ByteArray := prog_1_method_12_code
def yX11_taken : MethodName := ⟨RX11, "taken", "(I)I"⟩
abbrev cX11_order : ByteArray := prog_1_method_13_code
def yX11_order : MethodName := ⟨RX11, "order", "(II)I"⟩
abbrev cX11_against : ByteArray := prog_1_method_14_code
def yX11_against : MethodName := ⟨RX11, "against", "(II)I"⟩
abbrev cX11_blind : ByteArray := prog_1_method_15_code
def yX11_blind : MethodName := ⟨RX11, "blind", "(II)I"⟩
abbrev cX11_later : ByteArray := prog_1_method_16_code
def yX11_later : MethodName := ⟨RX11, "later", "(I)I"⟩
abbrev cX11_both : ByteArray := prog_1_method_17_code
def yX11_both : MethodName := ⟨RX11, "both", "(II)I"⟩
abbrev cX11_trusted : ByteArray := prog_1_method_18_code
def yX11_trusted : MethodName := ⟨RX11, "trusted", "(II)I"⟩
abbrev cX11_hang : ByteArray := prog_1_method_19_code
def yX11_hang : MethodName := ⟨RX11, "hang", "(II)I"⟩
abbrev cX11_own : ByteArray := prog_1_method_20_code
def yX11_own : MethodName := ⟨RX11, "own", "(III)I"⟩
abbrev cX11_apart : ByteArray := prog_1_method_21_code
def yX11_apart : MethodName := ⟨RX11, "apart", "(III)I"⟩
abbrev cX11_ways : ByteArray := prog_1_method_22_code
def yX11_ways : MethodName := ⟨RX11, "ways", "(I)I"⟩
abbrev cX11_span : ByteArray := prog_1_method_23_code
def yX11_span : MethodName := ⟨RX11, "span", "(III)I"⟩
abbrev cX11_sure : ByteArray := prog_1_method_24_code
def yX11_sure : MethodName := ⟨RX11, "sure", "(I)I"⟩
abbrev cX11_could : ByteArray := prog_1_method_25_code
def yX11_could : MethodName := ⟨RX11, "could", "(III)I"⟩
abbrev cX11_lean : ByteArray := prog_1_method_26_code
def yX11_lean : MethodName := ⟨RX11, "lean", "(II)I"⟩
abbrev cX11_ranked : ByteArray := prog_1_method_27_code
def yX11_ranked : MethodName := ⟨RX11, "ranked", "(III)I"⟩
abbrev cX11_rank : ByteArray := prog_1_method_28_code
def yX11_rank : MethodName := ⟨RX11, "rank", "(II)I"⟩
abbrev cX11_drawn : ByteArray := prog_1_method_29_code
def yX11_drawn : MethodName := ⟨RX11, "drawn", "(II)I"⟩
abbrev cX11_dates : ByteArray := prog_1_method_30_code
def yX11_dates : MethodName := ⟨RX11, "dates", "(II)I"⟩
abbrev cX11_likely : ByteArray := prog_1_method_31_code
def yX11_likely : MethodName := ⟨RX11, "likely", "(II)I"⟩
abbrev cX11_telling : ByteArray := prog_1_method_32_code
def yX11_telling : MethodName := ⟨RX11, "telling", "(I)I"⟩
abbrev cX11_weekday : ByteArray := prog_1_method_33_code
def yX11_weekday : MethodName := ⟨RX11, "weekday", "(IIII)I"⟩
abbrev cX11_nearest : ByteArray := prog_1_method_34_code
def yX11_nearest : MethodName := ⟨RX11, "nearest", "(II)I"⟩
abbrev cX11_backed : ByteArray := prog_1_method_35_code
def yX11_backed : MethodName := ⟨RX11, "backed", "(II)I"⟩
abbrev cX11_begin : ByteArray := prog_1_method_36_code
def yX11_begin : MethodName := ⟨RX11, "begin", "(II)I"⟩
abbrev cX11_lasts : ByteArray := prog_1_method_37_code
def yX11_lasts : MethodName := ⟨RX11, "lasts", "(II)I"⟩
abbrev cX11_day : ByteArray := prog_1_method_38_code
def yX11_day : MethodName := ⟨RX11, "day", "(III)I"⟩
abbrev cX11_date : ByteArray := prog_1_method_39_code
def yX11_date : MethodName := ⟨RX11, "date", "(II)I"⟩
abbrev cX11_moved : ByteArray := prog_1_method_40_code
def yX11_moved : MethodName := ⟨RX11, "moved", "(III)I"⟩
abbrev cX11_shifts : ByteArray := prog_1_method_41_code
def yX11_shifts : MethodName := ⟨RX11, "shifts", "(I)I"⟩
abbrev cX11_settled : ByteArray := prog_1_method_42_code
def yX11_settled : MethodName := ⟨RX11, "settled", "(I)I"⟩
abbrev cX11_tell : ByteArray := prog_1_method_43_code
def yX11_tell : MethodName := ⟨RX11, "tell", "(I)I"⟩
abbrev cX11_octet : ByteArray := prog_1_method_44_code
def yX11_octet : MethodName := ⟨RX11, "octet", "(I)I"⟩
abbrev cX11_due : ByteArray := prog_1_method_45_code
def yX11_due : MethodName := ⟨RX11, "due", "(II)I"⟩
abbrev cX11_dueSpan : ByteArray := prog_1_method_46_code
def yX11_dueSpan : MethodName := ⟨RX11, "dueSpan", "(III)I"⟩
abbrev cX11_dueOn : ByteArray := prog_1_method_47_code
def yX11_dueOn : MethodName := ⟨RX11, "dueOn", "(III)I"⟩
abbrev cX11_redated : ByteArray := prog_1_method_48_code
def yX11_redated : MethodName := ⟨RX11, "redated", "(I)I"⟩
abbrev cX11_longer : ByteArray := prog_1_method_49_code
def yX11_longer : MethodName := ⟨RX11, "longer", "(III)I"⟩
abbrev cX11_days : ByteArray := prog_1_method_50_code
def yX11_days : MethodName := ⟨RX11, "days", "(II)I"⟩
abbrev cX11_reports : ByteArray := prog_1_method_51_code
def yX11_reports : MethodName := ⟨RX11, "reports", "(IIIII)I"⟩
abbrev cX11_strikes : ByteArray := prog_1_method_52_code
def yX11_strikes : MethodName := ⟨RX11, "strikes", "(I)I"⟩
abbrev cX11_trusts : ByteArray := prog_1_method_53_code
def yX11_trusts : MethodName := ⟨RX11, "trusts", "(II)I"⟩
abbrev cX11_moon : ByteArray := prog_1_method_54_code
def yX11_moon : MethodName := ⟨RX11, "moon", "(II)I"⟩
abbrev cX11_runs : ByteArray := prog_1_method_55_code
def yX11_runs : MethodName := ⟨RX11, "runs", "(II)I"⟩
abbrev cX11_isTold : ByteArray := prog_1_method_56_code
def yX11_isTold : MethodName := ⟨RX11, "isTold", "()Z"⟩
abbrev cX11_hasTime : ByteArray := prog_1_method_57_code
def yX11_hasTime : MethodName := ⟨RX11, "hasTime", "(I)Z"⟩
abbrev cX11_hasMonth : ByteArray := prog_1_method_58_code
def yX11_hasMonth : MethodName := ⟨RX11, "hasMonth", "(III)Z"⟩
abbrev cX11_hasDate : ByteArray := prog_1_method_59_code
def yX11_hasDate : MethodName := ⟨RX11, "hasDate", "(II)Z"⟩
abbrev cX11_hasPlace : ByteArray := prog_1_method_60_code
def yX11_hasPlace : MethodName := ⟨RX11, "hasPlace", "(I)Z"⟩
abbrev cX11_hasReport : ByteArray := prog_1_method_61_code
def yX11_hasReport : MethodName := ⟨RX11, "hasReport", "(I)Z"⟩
abbrev cX11_hasDeed : ByteArray := prog_1_method_62_code
def yX11_hasDeed : MethodName := ⟨RX11, "hasDeed", "(I)Z"⟩
abbrev cX11_isEither : ByteArray := prog_1_method_63_code
def yX11_isEither : MethodName := ⟨RX11, "isEither", "(I)Z"⟩
abbrev cX11_forget : ByteArray := prog_1_method_64_code
def yX11_forget : MethodName := ⟨RX11, "forget", "()V"⟩
abbrev cX11_courtBy : ByteArray := prog_1_method_65_code
def yX11_courtBy : MethodName := ⟨RX11, "courtBy", "(I)LSightedMonths$Court;"⟩
abbrev cX11_tallyBy : ByteArray := prog_1_method_66_code
def yX11_tallyBy : MethodName := ⟨RX11, "tallyBy", "(I)LSightedMonths$Tally;"⟩
abbrev cX11_historyNow : ByteArray := prog_1_method_67_code
def yX11_historyNow : MethodName := ⟨RX11, "historyNow", "()LSightedMonths$History;"⟩
abbrev cX11_canBothBe : ByteArray := prog_1_method_68_code
def yX11_canBothBe : MethodName := ⟨RX11, "canBothBe", "(II)Z"⟩
abbrev cX11_judgeAlone : ByteArray := prog_1_method_69_code
def yX11_judgeAlone : MethodName := ⟨RX11, "judgeAlone", "(II)V"⟩
abbrev cX11_unlikeBegins : ByteArray := prog_1_method_70_code
def yX11_unlikeBegins : MethodName := ⟨RX11, "unlikeBegins", "([I[I)I"⟩
abbrev cX11_backReport : ByteArray := prog_1_method_71_code
def yX11_backReport : MethodName := ⟨RX11, "backReport", "(LSightedMonths$Report;)V"⟩
abbrev cX11_endByOfficial : ByteArray := prog_1_method_72_code
def yX11_endByOfficial : MethodName := ⟨RX11, "endByOfficial", "(II)I"⟩
abbrev cX11_leastLead : ByteArray := prog_1_method_73_code
def yX11_leastLead : MethodName := ⟨RX11, "leastLead", "(ILSightedMonths$Deed;LSightedMonths$Deed;)I"⟩
abbrev cX11_putOut : ByteArray := prog_1_method_74_code
def yX11_putOut : MethodName := ⟨RX11, "putOut", "(C)V"⟩
abbrev cX11_dayOf : ByteArray := prog_1_method_75_code
def yX11_dayOf : MethodName := ⟨RX11, "dayOf", "(II)I"⟩
abbrev cX11_anchorOf : ByteArray := prog_1_method_76_code
def yX11_anchorOf : MethodName := ⟨RX11, "anchorOf", "(II)I"⟩
abbrev cX11_offsetOf : ByteArray := prog_1_method_77_code
def yX11_offsetOf : MethodName := ⟨RX11, "offsetOf", "(I)I"⟩
abbrev cX11_runWithFull : ByteArray := prog_1_method_78_code
def yX11_runWithFull : MethodName := ⟨RX11, "runWithFull", "(II)I"⟩
abbrev cX11_runWithLean : ByteArray := prog_1_method_79_code
def yX11_runWithLean : MethodName := ⟨RX11, "runWithLean", "(III)I"⟩
abbrev cX11_firstRun : ByteArray := prog_1_method_80_code
def yX11_firstRun : MethodName := ⟨RX11, "firstRun", "(I)I"⟩
abbrev cX11_lastRun : ByteArray := prog_1_method_81_code
def yX11_lastRun : MethodName := ⟨RX11, "lastRun", "(III)I"⟩
abbrev cX11_cell : ByteArray := prog_1_method_82_code
def yX11_cell : MethodName := ⟨RX11, "cell", "(II)I"⟩
abbrev cX11_spot : ByteArray := prog_1_method_83_code
def yX11_spot : MethodName := ⟨RX11, "spot", "(III)I"⟩
def RX12 : String := "SightedMonthsModel"
def TX12 : u_T := fun k => match k with
  | 0 => ("SightedMonthsModel", "months", "I", false)
  | 1 => ("SightedMonthsModel", "mostFull", "I", false)
  | 2 => ("SightedMonthsModel", "mostLean", "I", false)
  | 3 => ("SightedMonthsModel", "lines", "I", false)
  | 4 => ("SightedMonthsModel", "hasMoon", "Z", false)
  | 5 => ("SightedMonthsModel", "moonFirst", "I", false)
  | 6 => ("SightedMonthsModel", "moonStep", "I", false)
  | 7 => ("SightedMonthsModel", "places", "I", false)
  | 8 => ("SightedMonthsModel", "trust", "[I", true)
  | 9 => ("SightedMonthsModel", "letter", "[I", true)
  | 10 => ("SightedMonthsModel", "reports", "I", false)
  | 11 => ("SightedMonthsModel", "reportPlace", "[I", true)
  | 12 => ("SightedMonthsModel", "reportKind", "[I", true)
  | 13 => ("SightedMonthsModel", "struck", "[Z", true)
  | 14 => ("SightedMonthsModel", "reportMonth", "[I", true)
  | 15 => ("SightedMonthsModel", "reportDay", "[I", true)
  | 16 => ("SightedMonthsModel", "reportKnown", "[I", true)
  | 17 => ("SightedMonthsModel", "deeds", "I", false)
  | 18 => ("SightedMonthsModel", "deedMonth", "[I", true)
  | 19 => ("SightedMonthsModel", "deedDay", "[I", true)
  | 20 => ("SightedMonthsModel", "deedLong", "[I", true)
  | 21 => ("SightedMonthsModel", "deedKind", "[I", true)
  | 22 => ("SightedMonthsModel", "kept", "[I", true)
  | 23 => ("SightedMonthsModel", "keptAt", "I", false)
  | 24 => ("SightedMonthsModel", "keeps", "Z", false)
  | 25 => ("SightedMonthsModel", "tape", "[I", true)
  | 26 => ("SightedMonthsModel", "taped", "I", false)
  | 27 => ("SightedMonthsModel", "faultKind", "I", false)
  | 28 => ("SightedMonthsModel", "faultPlace", "I", false)
  | 29 => ("SightedMonthsModel", "at", "I", false)
  | 30 => ("SightedMonthsModel", "begin", "I", false)
  | 31 => ("SightedMonthsModel", "token", "I", false)
  | 32 => ("SightedMonthsModel", "value", "I", false)
  | 33 => ("SightedMonthsModel", "bad", "Z", false)
  | 34 => ("SightedMonthsModel", "must", "[I", true)
  | 35 => ("SightedMonthsModel", "least", "[I", true)
  | 36 => ("SightedMonthsModel", "pin", "[I", true)
  | 37 => ("SightedMonthsModel", "isBroken", "Z", false)
  | 38 => ("SightedMonthsModel", "ways", "[I", true)
  | 39 => ("SightedMonthsModel", "verdict", "[I", true)
  | 40 => ("SightedMonthsModel", "row", "[I", true)
  | 41 => ("SightedMonthsModel", "rowMany", "I", false)
  | 42 => ("SightedMonthsModel", "only", "I", false)
  | 43 => ("SightedMonthsModel", "without", "I", false)
  | 44 => ("SightedMonthsModel", "otherTrust", "I", false)
  | 45 => ("SightedMonthsModel", "whose", "I", false)
  | 46 => ("SightedMonthsModel", "official", "[I", true)
  | 47 => ("SightedMonthsModel", "rankedFull", "I", false)
  | 48 => ("SightedMonthsModel", "changes", "I", false)
  | 49 => ("SightedMonthsModel", "latestChange", "I", false)
  | 50 => ("SightedMonthsModel", "canBeLess", "Z", false)
  | 51 => ("SightedMonthsModel", "canBeMore", "Z", false)
  | 52 => ("SightedMonthsModel", "aside", "[I", true)
  | 53 => ("SightedMonthsModel", "worth", "[I", true)
  | 54 => ("SightedMonthsModel", "worthFull", "I", false)
  | 55 => ("SightedMonthsModel", "out", "[I", true)
  | _ => ("SightedMonthsModel", "outs", "I", false)
def tyX12 : Nat → FieldType := fun k => match k with
  | 0 => .int
  | 1 => .int
  | 2 => .int
  | 3 => .int
  | 4 => .boolean
  | 5 => .int
  | 6 => .int
  | 7 => .int
  | 8 => .array .int
  | 9 => .array .int
  | 10 => .int
  | 11 => .array .int
  | 12 => .array .int
  | 13 => .array .boolean
  | 14 => .array .int
  | 15 => .array .int
  | 16 => .array .int
  | 17 => .int
  | 18 => .array .int
  | 19 => .array .int
  | 20 => .array .int
  | 21 => .array .int
  | 22 => .array .int
  | 23 => .int
  | 24 => .boolean
  | 25 => .array .int
  | 26 => .int
  | 27 => .int
  | 28 => .int
  | 29 => .int
  | 30 => .int
  | 31 => .int
  | 32 => .int
  | 33 => .boolean
  | 34 => .array .int
  | 35 => .array .int
  | 36 => .array .int
  | 37 => .boolean
  | 38 => .array .int
  | 39 => .array .int
  | 40 => .array .int
  | 41 => .int
  | 42 => .int
  | 43 => .int
  | 44 => .int
  | 45 => .int
  | 46 => .array .int
  | 47 => .int
  | 48 => .int
  | 49 => .int
  | 50 => .boolean
  | 51 => .boolean
  | 52 => .array .int
  | 53 => .array .int
  | 54 => .int
  | 55 => .array .int
  | _ => .int
abbrev wsX120 : List Cond := u_ws RX12 TX12 57
theorem nmX12 : ∀ a, a < 57 → ∀ b, b < 57 → a ≠ b → (TX12 a).2.1 ≠ (TX12 b).2.1 := by decide +kernel
theorem tyX12_ok : ∀ k, k < 57 → parseFieldDescriptor (TX12 k).2.2.1 = some (tyX12 k) := by decide +kernel
abbrev cX12_in : ByteArray := prog_14_method_1_code
def yX12_in : MethodName := ⟨RX12, "in", "(JJJ)Z"⟩
abbrev cX12_init : ByteArray := prog_14_method_3_code
def yX12_init : MethodName := ⟨RX12, "<init>", "()V"⟩
abbrev cX12_feed : ByteArray := prog_14_method_4_code
def yX12_feed : MethodName := ⟨RX12, "feed", "(IIIII)I"⟩
abbrev cX12_end : ByteArray := prog_14_method_5_code
def yX12_end : MethodName := ⟨RX12, "end", "(I)I"⟩
abbrev cX12_moves : ByteArray := prog_14_method_6_code
def yX12_moves : MethodName := ⟨RX12, "moves", "(I)I"⟩
abbrev cX12_movesRow : ByteArray := prog_14_method_7_code
def yX12_movesRow : MethodName := ⟨RX12, "movesRow", "([I)V"⟩
abbrev cX12_movesAll : ByteArray := prog_14_method_8_code
def yX12_movesAll : MethodName := ⟨RX12, "movesAll", "(Z)V"⟩
abbrev cX12_isAt : ByteArray := prog_14_method_9_code
def yX12_isAt : MethodName := ⟨RX12, "isAt", "(II)Z"⟩
abbrev cX12_next : ByteArray := prog_14_method_10_code
def yX12_next : MethodName := ⟨RX12, "next", "()V"⟩
abbrev cX12_faultsAt : ByteArray := prog_14_method_11_code
def yX12_faultsAt : MethodName := ⟨RX12, "faultsAt", "(II)V"⟩
abbrev cX12_faults : ByteArray := prog_14_method_12_code
def yX12_faults : MethodName := ⟨RX12, "faults", "(I)V"⟩
abbrev cX12_isWord : ByteArray := prog_14_method_13_code
def yX12_isWord : MethodName := ⟨RX12, "isWord", "(Ljava/lang/String;)Z"⟩
abbrev cX12_passes : ByteArray := prog_14_method_14_code
def yX12_passes : MethodName := ⟨RX12, "passes", "(Z)V"⟩
abbrev cX12_word : ByteArray := prog_14_method_15_code
def yX12_word : MethodName := ⟨RX12, "word", "(Ljava/lang/String;)V"⟩
abbrev cX12_number : ByteArray := prog_14_method_16_code
def yX12_number : MethodName := ⟨RX12, "number", "(II)I"⟩
abbrev cX12_numberBehind : ByteArray := prog_14_method_17_code
def yX12_numberBehind : MethodName := ⟨RX12, "numberBehind", "(Ljava/lang/String;II)I"⟩
abbrev cX12_named : ByteArray := prog_14_method_18_code
def yX12_named : MethodName := ⟨RX12, "named", "()I"⟩
abbrev cX12_placeHere : ByteArray := prog_14_method_19_code
def yX12_placeHere : MethodName := ⟨RX12, "placeHere", "()I"⟩
abbrev cX12_readsPlace : ByteArray := prog_14_method_20_code
def yX12_readsPlace : MethodName := ⟨RX12, "readsPlace", "()V"⟩
abbrev cX12_readsReport : ByteArray := prog_14_method_21_code
def yX12_readsReport : MethodName := ⟨RX12, "readsReport", "(I)V"⟩
abbrev cX12_lays : ByteArray := prog_14_method_22_code
def yX12_lays : MethodName := ⟨RX12, "lays", "(IIIII)V"⟩
abbrev cX12_readsDeed : ByteArray := prog_14_method_23_code
def yX12_readsDeed : MethodName := ⟨RX12, "readsDeed", "()V"⟩
abbrev cX12_readsMoon : ByteArray := prog_14_method_24_code
def yX12_readsMoon : MethodName := ⟨RX12, "readsMoon", "()V"⟩
abbrev cX12_readsHead : ByteArray := prog_14_method_25_code
def yX12_readsHead : MethodName := ⟨RX12, "readsHead", "()V"⟩
abbrev cX12_readsLine : ByteArray := prog_14_method_26_code
def yX12_readsLine : MethodName := ⟨RX12, "readsLine", "()V"⟩
abbrev cX12_almanac : ByteArray := prog_14_method_27_code
def yX12_almanac : MethodName := ⟨RX12, "almanac", "()I"⟩
abbrev cX12_fault : ByteArray := prog_14_method_28_code
def yX12_fault : MethodName := ⟨RX12, "fault", "(I)I"⟩
abbrev cX12_count : ByteArray := prog_14_method_29_code
def yX12_count : MethodName := ⟨RX12, "count", "(I)I"⟩
abbrev cX12_isTime : ByteArray := prog_14_method_30_code
def yX12_isTime : MethodName := ⟨RX12, "isTime", "(I)Z"⟩
abbrev cX12_isPlace : ByteArray := prog_14_method_31_code
def yX12_isPlace : MethodName := ⟨RX12, "isPlace", "(I)Z"⟩
abbrev cX12_isReport : ByteArray := prog_14_method_32_code
def yX12_isReport : MethodName := ⟨RX12, "isReport", "(I)Z"⟩
abbrev cX12_isDeed : ByteArray := prog_14_method_33_code
def yX12_isDeed : MethodName := ⟨RX12, "isDeed", "(I)Z"⟩
abbrev cX12_isNameAhead : ByteArray := prog_14_method_34_code
def yX12_isNameAhead : MethodName := ⟨RX12, "isNameAhead", "(II)Z"⟩
abbrev cX12_place : ByteArray := prog_14_method_35_code
def yX12_place : MethodName := ⟨RX12, "place", "(II)I"⟩
abbrev cX12_report : ByteArray := prog_14_method_36_code
def yX12_report : MethodName := ⟨RX12, "report", "(II)I"⟩
abbrev cX12_deed : ByteArray := prog_14_method_37_code
def yX12_deed : MethodName := ⟨RX12, "deed", "(II)I"⟩
abbrev cX12_earlyOf : ByteArray := prog_14_method_38_code
def yX12_earlyOf : MethodName := ⟨RX12, "earlyOf", "(I)I"⟩
abbrev cX12_early : ByteArray := prog_14_method_39_code
def yX12_early : MethodName := ⟨RX12, "early", "(I)I"⟩
abbrev cX12_frees : ByteArray := prog_14_method_40_code
def yX12_frees : MethodName := ⟨RX12, "frees", "()V"⟩
abbrev cX12_unpins : ByteArray := prog_14_method_41_code
def yX12_unpins : MethodName := ⟨RX12, "unpins", "()V"⟩
abbrev cX12_isOpen : ByteArray := prog_14_method_42_code
def yX12_isOpen : MethodName := ⟨RX12, "isOpen", "(II)Z"⟩
abbrev cX12_runBehind : ByteArray := prog_14_method_43_code
def yX12_runBehind : MethodName := ⟨RX12, "runBehind", "(II)I"⟩
abbrev cX12_placeOf : ByteArray := prog_14_method_44_code
def yX12_placeOf : MethodName := ⟨RX12, "placeOf", "(III)I"⟩
abbrev cX12_waysBy : ByteArray := prog_14_method_45_code
def yX12_waysBy : MethodName := ⟨RX12, "waysBy", "(IIII)I"⟩
abbrev cX12_counts : ByteArray := prog_14_method_46_code
def yX12_counts : MethodName := ⟨RX12, "counts", "()I"⟩
abbrev cX12_countsWith : ByteArray := prog_14_method_47_code
def yX12_countsWith : MethodName := ⟨RX12, "countsWith", "(IIII)I"⟩
abbrev cX12_trustOf : ByteArray := prog_14_method_48_code
def yX12_trustOf : MethodName := ⟨RX12, "trustOf", "(I)I"⟩
abbrev cX12_isAhead : ByteArray := prog_14_method_49_code
def yX12_isAhead : MethodName := ⟨RX12, "isAhead", "(II)Z"⟩
abbrev cX12_isKnown : ByteArray := prog_14_method_50_code
def yX12_isKnown : MethodName := ⟨RX12, "isKnown", "(II)Z"⟩
abbrev cX12_laysRow : ByteArray := prog_14_method_51_code
def yX12_laysRow : MethodName := ⟨RX12, "laysRow", "(I)V"⟩
abbrev cX12_holds : ByteArray := prog_14_method_52_code
def yX12_holds : MethodName := ⟨RX12, "holds", "(I)V"⟩
abbrev cX12_judges : ByteArray := prog_14_method_53_code
def yX12_judges : MethodName := ⟨RX12, "judges", "(I)I"⟩
abbrev cX12_judgesAll : ByteArray := prog_14_method_54_code
def yX12_judgesAll : MethodName := ⟨RX12, "judgesAll", "(I)V"⟩
abbrev cX12_takenBits : ByteArray := prog_14_method_55_code
def yX12_takenBits : MethodName := ⟨RX12, "takenBits", "()I"⟩
abbrev cX12_judged : ByteArray := prog_14_method_56_code
def yX12_judged : MethodName := ⟨RX12, "judged", "(II)I"⟩
abbrev cX12_taken : ByteArray := prog_14_method_57_code
def yX12_taken : MethodName := ⟨RX12, "taken", "(I)I"⟩
abbrev cX12_order : ByteArray := prog_14_method_58_code
def yX12_order : MethodName := ⟨RX12, "order", "(II)I"⟩
abbrev cX12_areBoth : ByteArray := prog_14_method_59_code
def yX12_areBoth : MethodName := ⟨RX12, "areBoth", "(II)Z"⟩
abbrev cX12_against : ByteArray := prog_14_method_60_code
def yX12_against : MethodName := ⟨RX12, "against", "(II)I"⟩
abbrev cX12_both : ByteArray := prog_14_method_61_code
def yX12_both : MethodName := ⟨RX12, "both", "(II)I"⟩
abbrev cX12_blind : ByteArray := prog_14_method_62_code
def yX12_blind : MethodName := ⟨RX12, "blind", "(II)I"⟩
abbrev cX12_later : ByteArray := prog_14_method_63_code
def yX12_later : MethodName := ⟨RX12, "later", "(I)I"⟩
abbrev cX12_laysOfficial : ByteArray := prog_14_method_64_code
def yX12_laysOfficial : MethodName := ⟨RX12, "laysOfficial", "()V"⟩
abbrev cX12_officialBy : ByteArray := prog_14_method_65_code
def yX12_officialBy : MethodName := ⟨RX12, "officialBy", "(I)V"⟩
abbrev cX12_isBegin : ByteArray := prog_14_method_66_code
def yX12_isBegin : MethodName := ⟨RX12, "isBegin", "(I)Z"⟩
abbrev cX12_isMonth : ByteArray := prog_14_method_67_code
def yX12_isMonth : MethodName := ⟨RX12, "isMonth", "(I)Z"⟩
abbrev cX12_ways : ByteArray := prog_14_method_68_code
def yX12_ways : MethodName := ⟨RX12, "ways", "(I)I"⟩
abbrev cX12_begin : ByteArray := prog_14_method_69_code
def yX12_begin : MethodName := ⟨RX12, "begin", "(II)I"⟩
abbrev cX12_beginsOn : ByteArray := prog_14_method_70_code
def yX12_beginsOn : MethodName := ⟨RX12, "beginsOn", "(II)I"⟩
abbrev cX12_spanOf : ByteArray := prog_14_method_71_code
def yX12_spanOf : MethodName := ⟨RX12, "spanOf", "(II)I"⟩
abbrev cX12_span : ByteArray := prog_14_method_72_code
def yX12_span : MethodName := ⟨RX12, "span", "(III)I"⟩
abbrev cX12_sure : ByteArray := prog_14_method_73_code
def yX12_sure : MethodName := ⟨RX12, "sure", "(I)I"⟩
abbrev cX12_lasts : ByteArray := prog_14_method_74_code
def yX12_lasts : MethodName := ⟨RX12, "lasts", "(II)I"⟩
abbrev cX12_could : ByteArray := prog_14_method_75_code
def yX12_could : MethodName := ⟨RX12, "could", "(III)I"⟩
abbrev cX12_lean : ByteArray := prog_14_method_76_code
def yX12_lean : MethodName := ⟨RX12, "lean", "(II)I"⟩
abbrev cX12_laysRanked : ByteArray := prog_14_method_77_code
def yX12_laysRanked : MethodName := ⟨RX12, "laysRanked", "(I)V"⟩
abbrev cX12_ranked : ByteArray := prog_14_method_78_code
def yX12_ranked : MethodName := ⟨RX12, "ranked", "(III)I"⟩
abbrev cX12_rank : ByteArray := prog_14_method_79_code
def yX12_rank : MethodName := ⟨RX12, "rank", "(II)I"⟩
abbrev cX12_drawn : ByteArray := prog_14_method_80_code
def yX12_drawn : MethodName := ⟨RX12, "drawn", "(II)I"⟩
abbrev cX12_lengthBy : ByteArray := prog_14_method_81_code
def yX12_lengthBy : MethodName := ⟨RX12, "lengthBy", "(I)I"⟩
abbrev cX12_dayBy : ByteArray := prog_14_method_82_code
def yX12_dayBy : MethodName := ⟨RX12, "dayBy", "(II)I"⟩
abbrev cX12_isInMonth : ByteArray := prog_14_method_83_code
def yX12_isInMonth : MethodName := ⟨RX12, "isInMonth", "(I)Z"⟩
abbrev cX12_day : ByteArray := prog_14_method_84_code
def yX12_day : MethodName := ⟨RX12, "day", "(III)I"⟩
abbrev cX12_date : ByteArray := prog_14_method_85_code
def yX12_date : MethodName := ⟨RX12, "date", "(II)I"⟩
abbrev cX12_datesWith : ByteArray := prog_14_method_86_code
def yX12_datesWith : MethodName := ⟨RX12, "datesWith", "(III)I"⟩
abbrev cX12_dates : ByteArray := prog_14_method_87_code
def yX12_dates : MethodName := ⟨RX12, "dates", "(II)I"⟩
abbrev cX12_likely : ByteArray := prog_14_method_88_code
def yX12_likely : MethodName := ⟨RX12, "likely", "(II)I"⟩
abbrev cX12_fallsOn : ByteArray := prog_14_method_89_code
def yX12_fallsOn : MethodName := ⟨RX12, "fallsOn", "(III)I"⟩
abbrev cX12_weekday : ByteArray := prog_14_method_90_code
def yX12_weekday : MethodName := ⟨RX12, "weekday", "(IIII)I"⟩
abbrev cX12_moved : ByteArray := prog_14_method_91_code
def yX12_moved : MethodName := ⟨RX12, "moved", "(III)I"⟩
abbrev cX12_nextTime : ByteArray := prog_14_method_92_code
def yX12_nextTime : MethodName := ⟨RX12, "nextTime", "(I)I"⟩
abbrev cX12_follows : ByteArray := prog_14_method_93_code
def yX12_follows : MethodName := ⟨RX12, "follows", "(II)V"⟩
abbrev cX12_shifts : ByteArray := prog_14_method_94_code
def yX12_shifts : MethodName := ⟨RX12, "shifts", "(I)I"⟩
abbrev cX12_settled : ByteArray := prog_14_method_95_code
def yX12_settled : MethodName := ⟨RX12, "settled", "(I)I"⟩
abbrev cX12_monthOf : ByteArray := prog_14_method_96_code
def yX12_monthOf : MethodName := ⟨RX12, "monthOf", "(I)I"⟩
abbrev cX12_behindOf : ByteArray := prog_14_method_97_code
def yX12_behindOf : MethodName := ⟨RX12, "behindOf", "(I)I"⟩
abbrev cX12_dueBy : ByteArray := prog_14_method_98_code
def yX12_dueBy : MethodName := ⟨RX12, "dueBy", "(I)I"⟩
abbrev cX12_due : ByteArray := prog_14_method_99_code
def yX12_due : MethodName := ⟨RX12, "due", "(II)I"⟩
abbrev cX12_duesOn : ByteArray := prog_14_method_100_code
def yX12_duesOn : MethodName := ⟨RX12, "duesOn", "(II)I"⟩
abbrev cX12_dueSpanOf : ByteArray := prog_14_method_101_code
def yX12_dueSpanOf : MethodName := ⟨RX12, "dueSpanOf", "(II)I"⟩
abbrev cX12_dueSpan : ByteArray := prog_14_method_102_code
def yX12_dueSpan : MethodName := ⟨RX12, "dueSpan", "(III)I"⟩
abbrev cX12_dueOn : ByteArray := prog_14_method_103_code
def yX12_dueOn : MethodName := ⟨RX12, "dueOn", "(III)I"⟩
abbrev cX12_redated : ByteArray := prog_14_method_104_code
def yX12_redated : MethodName := ⟨RX12, "redated", "(I)I"⟩
abbrev cX12_days : ByteArray := prog_14_method_105_code
def yX12_days : MethodName := ⟨RX12, "days", "(II)I"⟩
abbrev cX12_compares : ByteArray := prog_14_method_106_code
def yX12_compares : MethodName := ⟨RX12, "compares", "(II)V"⟩
abbrev cX12_longer : ByteArray := prog_14_method_107_code
def yX12_longer : MethodName := ⟨RX12, "longer", "(III)I"⟩
abbrev cX12_keepsOfficial : ByteArray := prog_14_method_108_code
def yX12_keepsOfficial : MethodName := ⟨RX12, "keepsOfficial", "()V"⟩
abbrev cX12_unlike : ByteArray := prog_14_method_109_code
def yX12_unlike : MethodName := ⟨RX12, "unlike", "()I"⟩
abbrev cX12_ownBy : ByteArray := prog_14_method_110_code
def yX12_ownBy : MethodName := ⟨RX12, "ownBy", "(II)V"⟩
abbrev cX12_own : ByteArray := prog_14_method_111_code
def yX12_own : MethodName := ⟨RX12, "own", "(III)I"⟩
abbrev cX12_apart : ByteArray := prog_14_method_112_code
def yX12_apart : MethodName := ⟨RX12, "apart", "(III)I"⟩
abbrev cX12_hang : ByteArray := prog_14_method_113_code
def yX12_hang : MethodName := ⟨RX12, "hang", "(II)I"⟩
abbrev cX12_trusted : ByteArray := prog_14_method_114_code
def yX12_trusted : MethodName := ⟨RX12, "trusted", "(II)I"⟩
abbrev cX12_telling : ByteArray := prog_14_method_115_code
def yX12_telling : MethodName := ⟨RX12, "telling", "(I)I"⟩
abbrev cX12_worthBy : ByteArray := prog_14_method_116_code
def yX12_worthBy : MethodName := ⟨RX12, "worthBy", "(IIII)I"⟩
abbrev cX12_costOf : ByteArray := prog_14_method_117_code
def yX12_costOf : MethodName := ⟨RX12, "costOf", "(IIIZ)I"⟩
abbrev cX12_laysWorth : ByteArray := prog_14_method_118_code
def yX12_laysWorth : MethodName := ⟨RX12, "laysWorth", "(IZ)I"⟩
abbrev cX12_nearest : ByteArray := prog_14_method_119_code
def yX12_nearest : MethodName := ⟨RX12, "nearest", "(II)I"⟩
abbrev cX12_backed : ByteArray := prog_14_method_120_code
def yX12_backed : MethodName := ⟨RX12, "backed", "(II)I"⟩
abbrev cX12_tell : ByteArray := prog_14_method_121_code
def yX12_tell : MethodName := ⟨RX12, "tell", "(I)I"⟩
abbrev cX12_octet : ByteArray := prog_14_method_122_code
def yX12_octet : MethodName := ⟨RX12, "octet", "(I)I"⟩
abbrev cX12_reports : ByteArray := prog_14_method_123_code
def yX12_reports : MethodName := ⟨RX12, "reports", "(IIIII)I"⟩
abbrev cX12_strikes : ByteArray := prog_14_method_124_code
def yX12_strikes : MethodName := ⟨RX12, "strikes", "(I)I"⟩
abbrev cX12_trusts : ByteArray := prog_14_method_125_code
def yX12_trusts : MethodName := ⟨RX12, "trusts", "(II)I"⟩
abbrev cX12_moon : ByteArray := prog_14_method_126_code
def yX12_moon : MethodName := ⟨RX12, "moon", "(II)I"⟩
abbrev cX12_runs : ByteArray := prog_14_method_127_code
def yX12_runs : MethodName := ⟨RX12, "runs", "(II)I"⟩
def RJx145de : String := "java/io/Serializable"
def TJx145de : u_T := fun k => match k with
  | _ => ("", "", "", false)
def tyJx145de : Nat → FieldType := fun k => match k with
  | _ => .int
abbrev wsJx145de0 : List Cond := u_ws RJx145de TJx145de 0
theorem nmJx145de : ∀ a, a < 0 → ∀ b, b < 0 → a ≠ b → (TJx145de a).2.1 ≠ (TJx145de b).2.1 := by decide +kernel
theorem tyJx145de_ok : ∀ k, k < 0 → parseFieldDescriptor (TJx145de k).2.2.1 = some (tyJx145de k) := by decide +kernel
def RJx9f9b0 : String := "java/lang/CharSequence"
def TJx9f9b0 : u_T := fun k => match k with
  | _ => ("", "", "", false)
def tyJx9f9b0 : Nat → FieldType := fun k => match k with
  | _ => .int
abbrev wsJx9f9b00 : List Cond := u_ws RJx9f9b0 TJx9f9b0 0
theorem nmJx9f9b0 : ∀ a, a < 0 → ∀ b, b < 0 → a ≠ b → (TJx9f9b0 a).2.1 ≠ (TJx9f9b0 b).2.1 := by decide +kernel
theorem tyJx9f9b0_ok : ∀ k, k < 0 → parseFieldDescriptor (TJx9f9b0 k).2.2.1 = some (tyJx9f9b0 k) := by decide +kernel
def RJxb160c : String := "java/lang/Comparable"
def TJxb160c : u_T := fun k => match k with
  | _ => ("", "", "", false)
def tyJxb160c : Nat → FieldType := fun k => match k with
  | _ => .int
abbrev wsJxb160c0 : List Cond := u_ws RJxb160c TJxb160c 0
theorem nmJxb160c : ∀ a, a < 0 → ∀ b, b < 0 → a ≠ b → (TJxb160c a).2.1 ≠ (TJxb160c b).2.1 := by decide +kernel
theorem tyJxb160c_ok : ∀ k, k < 0 → parseFieldDescriptor (TJxb160c k).2.2.1 = some (tyJxb160c k) := by decide +kernel
def RJ6 : String := "java/lang/Integer"
def TJ6 : u_T := fun k => match k with
  | _ => ("", "", "", false)
def tyJ6 : Nat → FieldType := fun k => match k with
  | _ => .int
abbrev wsJ60 : List Cond := u_ws RJ6 TJ6 0
theorem nmJ6 : ∀ a, a < 0 → ∀ b, b < 0 → a ≠ b → (TJ6 a).2.1 ≠ (TJ6 b).2.1 := by decide +kernel
theorem tyJ6_ok : ∀ k, k < 0 → parseFieldDescriptor (TJ6 k).2.2.1 = some (tyJ6 k) := by decide +kernel
abbrev cJ6_bitCount_0f7a4 : ByteArray := prog_15_method_49_code
def yJ6_bitCount_0f7a4 : MethodName := ⟨RJ6, "bitCount", "(I)I"⟩
def RJ9 : String := "java/lang/Math"
def TJ9 : u_T := fun k => match k with
  | _ => ("", "", "", false)
def tyJ9 : Nat → FieldType := fun k => match k with
  | _ => .int
abbrev wsJ90 : List Cond := u_ws RJ9 TJ9 0
theorem nmJ9 : ∀ a, a < 0 → ∀ b, b < 0 → a ≠ b → (TJ9 a).2.1 ≠ (TJ9 b).2.1 := by decide +kernel
theorem tyJ9_ok : ∀ k, k < 0 → parseFieldDescriptor (TJ9 k).2.2.1 = some (tyJ9 k) := by decide +kernel
abbrev cJ9_abs_0f7a4 : ByteArray := prog_16_method_59_code
def yJ9_abs_0f7a4 : MethodName := ⟨RJ9, "abs", "(I)I"⟩
abbrev cJ9_max_7cf53 : ByteArray := prog_16_method_65_code
def yJ9_max_7cf53 : MethodName := ⟨RJ9, "max", "(II)I"⟩
abbrev cJ9_min_7cf53 : ByteArray := prog_16_method_69_code
def yJ9_min_7cf53 : MethodName := ⟨RJ9, "min", "(II)I"⟩
def RJ0 : String := "java/lang/String"
def TJ0 : u_T := fun k => match k with
  | _ => ("", "", "", false)
def tyJ0 : Nat → FieldType := fun k => match k with
  | _ => .int
abbrev wsJ00 : List Cond := u_ws RJ0 TJ0 0
theorem nmJ0 : ∀ a, a < 0 → ∀ b, b < 0 → a ≠ b → (TJ0 a).2.1 ≠ (TJ0 b).2.1 := by decide +kernel
theorem tyJ0_ok : ∀ k, k < 0 → parseFieldDescriptor (TJ0 k).2.2.1 = some (tyJ0 k) := by decide +kernel
abbrev cJ0_length_8abf5 : ByteArray := prog_17_method_54_code
def yJ0_length_8abf5 : MethodName := ⟨RJ0, "length", "()I"⟩
abbrev cJ0_charAt_5068e : ByteArray := prog_17_method_56_code
def yJ0_charAt_5068e : MethodName := ⟨RJ0, "charAt", "(I)C"⟩
abbrev cJ0_coder_7d493 : ByteArray := prog_17_method_152_code
def yJ0_coder_7d493 : MethodName := ⟨RJ0, "coder", "()B"⟩
abbrev cJ0_isLatin1_aae02 : ByteArray := prog_17_method_154_code
def yJ0_isLatin1_aae02 : MethodName := ⟨RJ0, "isLatin1", "()Z"⟩
abbrev cJ0_checkIndex_df160 : ByteArray := prog_17_method_155_code
def yJ0_checkIndex_df160 : MethodName := ⟨RJ0, "checkIndex", "(II)V"⟩
def RJ1 : String := "java/lang/StringLatin1"
def TJ1 : u_T := fun k => match k with
  | _ => ("", "", "", false)
def tyJ1 : Nat → FieldType := fun k => match k with
  | _ => .int
abbrev wsJ10 : List Cond := u_ws RJ1 TJ1 0
theorem nmJ1 : ∀ a, a < 0 → ∀ b, b < 0 → a ≠ b → (TJ1 a).2.1 ≠ (TJ1 b).2.1 := by decide +kernel
theorem tyJ1_ok : ∀ k, k < 0 → parseFieldDescriptor (TJ1 k).2.2.1 = some (tyJ1 k) := by decide +kernel
abbrev cJ1_charAt_3b067 : ByteArray := prog_18_method_2_code
def yJ1_charAt_3b067 : MethodName := ⟨RJ1, "charAt", "([BI)C"⟩
def RJ2 : String := "java/lang/StringUTF16"
def TJ2 : u_T := fun k => match k with
  | _ => ("", "", "", false)
def tyJ2 : Nat → FieldType := fun k => match k with
  | _ => .int
abbrev wsJ20 : List Cond := u_ws RJ2 TJ2 0
theorem nmJ2 : ∀ a, a < 0 → ∀ b, b < 0 → a ≠ b → (TJ2 a).2.1 ≠ (TJ2 b).2.1 := by decide +kernel
theorem tyJ2_ok : ∀ k, k < 0 → parseFieldDescriptor (TJ2 k).2.2.1 = some (tyJ2 k) := by decide +kernel
abbrev cJ2_getChar_3b067 : ByteArray := prog_19_method_5_code
def yJ2_getChar_3b067 : MethodName := ⟨RJ2, "getChar", "([BI)C"⟩
abbrev cJ2_length_9d52b : ByteArray := prog_19_method_6_code
def yJ2_length_9d52b : MethodName := ⟨RJ2, "length", "([B)I"⟩
abbrev cJ2_charAt_3b067 : ByteArray := prog_19_method_83_code
def yJ2_charAt_3b067 : MethodName := ⟨RJ2, "charAt", "([BI)C"⟩
abbrev cJ2_checkIndex_2214a : ByteArray := prog_19_method_91_code
def yJ2_checkIndex_2214a : MethodName := ⟨RJ2, "checkIndex", "(I[B)V"⟩
def RJ10 : String := "java/lang/System"
def TJ10 : u_T := fun k => match k with
  | _ => ("", "", "", false)
def tyJ10 : Nat → FieldType := fun k => match k with
  | _ => .int
abbrev wsJ100 : List Cond := u_ws RJ10 TJ10 0
theorem nmJ10 : ∀ a, a < 0 → ∀ b, b < 0 → a ≠ b → (TJ10 a).2.1 ≠ (TJ10 b).2.1 := by decide +kernel
theorem tyJ10_ok : ∀ k, k < 0 → parseFieldDescriptor (TJ10 k).2.2.1 = some (tyJ10 k) := by decide +kernel
def RJxfd54e : String := "java/lang/constant/Constable"
def TJxfd54e : u_T := fun k => match k with
  | _ => ("", "", "", false)
def tyJxfd54e : Nat → FieldType := fun k => match k with
  | _ => .int
abbrev wsJxfd54e0 : List Cond := u_ws RJxfd54e TJxfd54e 0
theorem nmJxfd54e : ∀ a, a < 0 → ∀ b, b < 0 → a ≠ b → (TJxfd54e a).2.1 ≠ (TJxfd54e b).2.1 := by decide +kernel
theorem tyJxfd54e_ok : ∀ k, k < 0 → parseFieldDescriptor (TJxfd54e k).2.2.1 = some (tyJxfd54e k) := by decide +kernel
def RJx3cf43 : String := "java/lang/constant/ConstantDesc"
def TJx3cf43 : u_T := fun k => match k with
  | _ => ("", "", "", false)
def tyJx3cf43 : Nat → FieldType := fun k => match k with
  | _ => .int
abbrev wsJx3cf430 : List Cond := u_ws RJx3cf43 TJx3cf43 0
theorem nmJx3cf43 : ∀ a, a < 0 → ∀ b, b < 0 → a ≠ b → (TJx3cf43 a).2.1 ≠ (TJx3cf43 b).2.1 := by decide +kernel
theorem tyJx3cf43_ok : ∀ k, k < 0 → parseFieldDescriptor (TJx3cf43 k).2.2.1 = some (tyJx3cf43 k) := by decide +kernel
def RJ7 : String := "java/util/Arrays"
def TJ7 : u_T := fun k => match k with
  | _ => ("", "", "", false)
def tyJ7 : Nat → FieldType := fun k => match k with
  | _ => .int
abbrev wsJ70 : List Cond := u_ws RJ7 TJ7 0
theorem nmJ7 : ∀ a, a < 0 → ∀ b, b < 0 → a ≠ b → (TJ7 a).2.1 ≠ (TJ7 b).2.1 := by decide +kernel
theorem tyJ7_ok : ∀ k, k < 0 → parseFieldDescriptor (TJ7 k).2.2.1 = some (tyJ7 k) := by decide +kernel
abbrev cJ7_fill_53178 : ByteArray := prog_21_method_103_code
def yJ7_fill_53178 : MethodName := ⟨RJ7, "fill", "([II)V"⟩
def RJ3 : String := "jdk/internal/util/Preconditions"
def TJ3 : u_T := fun k => match k with
  | _ => ("", "", "", false)
def tyJ3 : Nat → FieldType := fun k => match k with
  | _ => .int
abbrev wsJ30 : List Cond := u_ws RJ3 TJ3 0
theorem nmJ3 : ∀ a, a < 0 → ∀ b, b < 0 → a ≠ b → (TJ3 a).2.1 ≠ (TJ3 b).2.1 := by decide +kernel
theorem tyJ3_ok : ∀ k, k < 0 → parseFieldDescriptor (TJ3 k).2.2.1 = some (tyJ3 k) := by decide +kernel
abbrev cJ3_checkIndex_8e157 : ByteArray := prog_22_method_11_code
def yJ3_checkIndex_8e157 : MethodName := ⟨RJ3, "checkIndex", "(IILjava/util/function/BiFunction;)I"⟩
def RL : String := "SightedMonthsLaw"
abbrev cL_law : ByteArray := code
def yL_law : MethodName := ⟨RL, "law", "([I)Z"⟩
def wsL_law_r1 : List Cond := [Cond.classLink RL 7 RX11, Cond.instantiable RX11 16, Cond.initialized RX11, Cond.classLink RL 10 RX12, Cond.instantiable RX12 57, Cond.initialized RX12, Cond.methodLink RL 9 yX11_init, Cond.instanceMethod yX11_init, Cond.code yX11_init cX11_init 1 none, Cond.methodLink RX11 3 objectInit, Cond.instanceMethod objectInit, Cond.code objectInit ⟨#[0xb1]⟩ 1 none, Cond.classLink RX11 9 RX6, Cond.instantiable RX6 7, Cond.initialized RX6, Cond.fieldLink RX11 12 "SightedMonths" "reader" "LSightedMonths$Reader;", Cond.classLink RX11 16 RX0, Cond.instantiable RX0 13, Cond.initialized RX0, Cond.fieldLink RX11 19 "SightedMonths" "almanac" "LSightedMonths$Almanac;", Cond.fieldLink RX11 23 "SightedMonths" "spare" "LSightedMonths$Almanac;", Cond.classLink RX11 26 RX3, Cond.instantiable RX3 5, Cond.initialized RX3]
def wsL_law_r2 : List Cond := [Cond.fieldLink RX11 29 "SightedMonths" "freeFrame" "LSightedMonths$Frame;", Cond.classLink RX11 33 RX1, Cond.instantiable RX1 7, Cond.initialized RX1, Cond.fieldLink RX11 36 "SightedMonths" "court" "LSightedMonths$Court;", Cond.fieldLink RX11 40 "SightedMonths" "otherCourt" "LSightedMonths$Court;", Cond.classLink RX11 43 RX9, Cond.instantiable RX9 6, Cond.initialized RX9, Cond.fieldLink RX11 46 "SightedMonths" "tally" "LSightedMonths$Tally;", Cond.classLink RX11 50 RX8, Cond.instantiable RX8 5, Cond.initialized RX8, Cond.fieldLink RX11 53 "SightedMonths" "search" "LSightedMonths$Search;", Cond.classLink RX11 57 RX4, Cond.instantiable RX4 3, Cond.initialized RX4, Cond.fieldLink RX11 60 "SightedMonths" "history" "LSightedMonths$History;", Cond.arrayClass .int, Cond.fieldLink RX11 64 "SightedMonths" "kept" "[I", Cond.arrayClass .byte, Cond.fieldLink RX11 68 "SightedMonths" "out" "[B", Cond.fieldLink RX11 72 "SightedMonths" "outLength" "I", Cond.fieldLink RX11 76 "SightedMonths" "courtStands" "Z"]
def wsL_law_r3 : List Cond := [Cond.fieldLink RX11 80 "SightedMonths" "courtNews" "I", Cond.fieldLink RX11 83 "SightedMonths" "tallyStands" "Z", Cond.fieldLink RX11 86 "SightedMonths" "historyStands" "Z", Cond.instanceMethod yX6_init, Cond.code yX6_init cX6_init 1 none, Cond.methodLink RX6 3 objectInit, Cond.classLink RX6 9 RX10, Cond.instantiable RX10 2, Cond.initialized RX10, Cond.fieldLink RX6 12 "SightedMonths$Reader" "tape" "LSightedMonths$Tape;", Cond.classLink RX6 18 RX0, Cond.fieldLink RX6 21 "SightedMonths$Reader" "draft" "LSightedMonths$Almanac;", Cond.fieldLink RX6 25 "SightedMonths$Reader" "faultKind" "I", Cond.fieldLink RX6 29 "SightedMonths$Reader" "faultPlace" "I", Cond.fieldLink RX6 32 "SightedMonths$Reader" "token" "I", Cond.fieldLink RX6 35 "SightedMonths$Reader" "start" "I", Cond.fieldLink RX6 38 "SightedMonths$Reader" "stop" "I", Cond.instanceMethod yX10_init, Cond.code yX10_init cX10_init 1 none, Cond.methodLink RX10 3 objectInit, Cond.fieldLink RX10 9 "SightedMonths$Tape" "bytes" "[B", Cond.fieldLink RX10 15 "SightedMonths$Tape" "length" "I", Cond.methodLink RX6 20 yX0_init, Cond.instanceMethod yX0_init]
def wsL_law_r4 : List Cond := [Cond.code yX0_init cX0_init 2 none, Cond.methodLink RX0 3 objectInit, Cond.classLink RX0 9 RX5, Cond.fieldLink RX0 11 "SightedMonths$Almanac" "places" "[LSightedMonths$Place;", Cond.classLink RX0 17 RX7, Cond.fieldLink RX0 19 "SightedMonths$Almanac" "reports" "[LSightedMonths$Report;", Cond.classLink RX0 23 RX2, Cond.fieldLink RX0 25 "SightedMonths$Almanac" "deeds" "[LSightedMonths$Deed;", Cond.instantiable RX5 2, Cond.initialized RX5, Cond.instantiable RX7 6, Cond.initialized RX7, Cond.instantiable RX2 4, Cond.initialized RX2, Cond.instanceMethod yX5_init, Cond.code yX5_init cX5_init 1 none, Cond.methodLink RX5 1 objectInit, Cond.instanceMethod yX7_init, Cond.code yX7_init cX7_init 1 none, Cond.methodLink RX7 1 objectInit, Cond.instanceMethod yX2_init, Cond.code yX2_init cX2_init 1 none, Cond.methodLink RX2 1 objectInit, Cond.methodLink RX11 18 yX0_init]
def wsL_law_r5 : List Cond := [Cond.instanceMethod yX3_init, Cond.code yX3_init cX3_init 1 none, Cond.methodLink RX3 3 objectInit, Cond.fieldLink RX3 9 "SightedMonths$Frame" "allowed" "[I", Cond.fieldLink RX3 15 "SightedMonths$Frame" "onward" "[I", Cond.instanceMethod yX1_init, Cond.code yX1_init cX1_init 1 none, Cond.methodLink RX1 3 objectInit, Cond.classLink RX1 9 RX3, Cond.fieldLink RX1 12 "SightedMonths$Court" "frame" "LSightedMonths$Frame;", Cond.fieldLink RX1 18 "SightedMonths$Court" "verdicts" "[I", Cond.fieldLink RX1 22 "SightedMonths$Court" "queue" "[I", Cond.arrayClass .long, Cond.fieldLink RX1 25 "SightedMonths$Court" "turns" "[J", Cond.fieldLink RX1 29 "SightedMonths$Court" "begins" "[I", Cond.fieldLink RX1 32 "SightedMonths$Court" "queueLength" "I", Cond.fieldLink RX1 36 "SightedMonths$Court" "takenBits" "I", Cond.instanceMethod yX9_init, Cond.code yX9_init cX9_init 1 none, Cond.methodLink RX9 3 objectInit, Cond.fieldLink RX9 9 "SightedMonths$Tally" "before" "[I", Cond.fieldLink RX9 15 "SightedMonths$Tally" "behind" "[I", Cond.fieldLink RX9 18 "SightedMonths$Tally" "starts" "[I", Cond.instanceMethod yX8_init]
def wsL_law_r6 : List Cond := [Cond.code yX8_init cX8_init 1 none, Cond.methodLink RX8 3 objectInit, Cond.fieldLink RX8 9 "SightedMonths$Search" "costs" "[I", Cond.fieldLink RX8 15 "SightedMonths$Search" "leasts" "[I", Cond.instanceMethod yX4_init, Cond.code yX4_init cX4_init 1 none, Cond.methodLink RX4 3 objectInit, Cond.fieldLink RX4 11 "SightedMonths$History" "since" "[I", Cond.fieldLink RX4 15 "SightedMonths$History" "begins" "[I", Cond.fieldLink RX4 18 "SightedMonths$History" "eras" "I", Cond.methodLink RL 12 yX12_init, Cond.instanceMethod yX12_init, Cond.code yX12_init cX12_init 1 none, Cond.methodLink RX12 1 objectInit, Cond.fieldLink RX12 7 "SightedMonthsModel" "trust" "[I", Cond.fieldLink RX12 13 "SightedMonthsModel" "letter" "[I", Cond.fieldLink RX12 16 "SightedMonthsModel" "reportPlace" "[I", Cond.fieldLink RX12 19 "SightedMonthsModel" "reportKind" "[I", Cond.arrayClass .boolean, Cond.fieldLink RX12 22 "SightedMonthsModel" "struck" "[Z", Cond.fieldLink RX12 26 "SightedMonthsModel" "reportMonth" "[I", Cond.fieldLink RX12 29 "SightedMonthsModel" "reportDay" "[I", Cond.fieldLink RX12 32 "SightedMonthsModel" "reportKnown" "[I", Cond.fieldLink RX12 35 "SightedMonthsModel" "deedMonth" "[I"]
def wsL_law_r7 : List Cond := [Cond.fieldLink RX12 38 "SightedMonthsModel" "deedDay" "[I", Cond.fieldLink RX12 41 "SightedMonthsModel" "deedLong" "[I", Cond.fieldLink RX12 44 "SightedMonthsModel" "deedKind" "[I", Cond.fieldLink RX12 47 "SightedMonthsModel" "kept" "[I", Cond.fieldLink RX12 50 "SightedMonthsModel" "tape" "[I", Cond.fieldLink RX12 53 "SightedMonthsModel" "faultPlace" "I", Cond.fieldLink RX12 57 "SightedMonthsModel" "must" "[I", Cond.fieldLink RX12 60 "SightedMonthsModel" "least" "[I", Cond.fieldLink RX12 63 "SightedMonthsModel" "pin" "[I", Cond.fieldLink RX12 66 "SightedMonthsModel" "ways" "[I", Cond.fieldLink RX12 69 "SightedMonthsModel" "verdict" "[I", Cond.fieldLink RX12 72 "SightedMonthsModel" "row" "[I", Cond.fieldLink RX12 75 "SightedMonthsModel" "only" "I", Cond.fieldLink RX12 78 "SightedMonthsModel" "without" "I", Cond.fieldLink RX12 81 "SightedMonthsModel" "otherTrust" "I", Cond.fieldLink RX12 84 "SightedMonthsModel" "whose" "I", Cond.fieldLink RX12 87 "SightedMonthsModel" "official" "[I", Cond.fieldLink RX12 90 "SightedMonthsModel" "aside" "[I", Cond.fieldLink RX12 93 "SightedMonthsModel" "worth" "[I", Cond.fieldLink RX12 96 "SightedMonthsModel" "out" "[I", Cond.methodLink RL 13 yX11_feed, Cond.instanceMethod yX11_feed, Cond.selects RX11 yX11_feed yX11_feed, Cond.code yX11_feed cX11_feed 7 (some .int)]
def wsL_law_r8 : List Cond := [Cond.fieldLink RX11 89 "SightedMonths$Reader" "tape" "LSightedMonths$Tape;", Cond.fieldLink RX11 93 "SightedMonths$Tape" "length" "I", Cond.methodLink RX11 98 yX10_put, Cond.instanceMethod yX10_put, Cond.selects RX10 yX10_put yX10_put, Cond.code yX10_put cX10_put 2 none, Cond.methodLink RL 17 yX12_feed, Cond.instanceMethod yX12_feed, Cond.selects RX12 yX12_feed yX12_feed, Cond.code yX12_feed cX12_feed 8 (some .int), Cond.fieldLink RX12 99 "SightedMonthsModel" "taped" "I", Cond.methodLink RL 18 yX11_end, Cond.instanceMethod yX11_end, Cond.selects RX11 yX11_end yX11_end, Cond.code yX11_end cX11_end 2 (some .int), Cond.methodLink RL 22 yX12_end, Cond.instanceMethod yX12_end, Cond.selects RX12 yX12_end yX12_end, Cond.code yX12_end cX12_end 2 (some .int), Cond.methodLink RX12 102 yX12_in, Cond.static yX12_in, Cond.code yX12_in cX12_in 6 (some .boolean), Cond.methodLink RL 23 yX11_almanac, Cond.instanceMethod yX11_almanac]
def wsL_law_r9 : List Cond := [Cond.selects RX11 yX11_almanac yX11_almanac, Cond.code yX11_almanac cX11_almanac 2 (some .int), Cond.fieldLink RX11 105 "SightedMonths$Reader" "faultKind" "I", Cond.fieldLink RX11 108 "SightedMonths$Reader" "draft" "LSightedMonths$Almanac;", Cond.fieldLink RX11 114 "SightedMonths$Almanac" "lines" "I", Cond.methodLink RX11 102 yX6_read, Cond.instanceMethod yX6_read, Cond.selects RX6 yX6_read yX6_read, Cond.code yX6_read cX6_read 2 none, Cond.methodLink RX6 41 yX0_wipe, Cond.instanceMethod yX0_wipe, Cond.selects RX0 yX0_wipe yX0_wipe, Cond.code yX0_wipe cX0_wipe 1 none, Cond.fieldLink RX0 32 "SightedMonths$Almanac" "months" "I", Cond.fieldLink RX0 36 "SightedMonths$Almanac" "full" "I", Cond.fieldLink RX0 39 "SightedMonths$Almanac" "lean" "I", Cond.fieldLink RX0 42 "SightedMonths$Almanac" "lines" "I", Cond.fieldLink RX0 45 "SightedMonths$Almanac" "hasMoon" "Z", Cond.fieldLink RX0 49 "SightedMonths$Almanac" "moonStart" "I", Cond.fieldLink RX0 52 "SightedMonths$Almanac" "moonStep" "I", Cond.fieldLink RX0 55 "SightedMonths$Almanac" "placeCount" "I", Cond.fieldLink RX0 58 "SightedMonths$Almanac" "reportCount" "I", Cond.fieldLink RX0 61 "SightedMonths$Almanac" "deedCount" "I", Cond.methodLink RX6 44 yX6_step]
def wsL_law_r10 : List Cond := [Cond.instanceMethod yX6_step, Cond.selects RX6 yX6_step yX6_step, Cond.code yX6_step cX6_step 2 none, Cond.fieldLink RX6 205 "SightedMonths$Tape" "length" "I", Cond.methodLink RX6 181 yX6_byteAt, Cond.instanceMethod yX6_byteAt, Cond.selects RX6 yX6_byteAt yX6_byteAt, Cond.code yX6_byteAt cX6_byteAt 2 (some .int), Cond.fieldLink RX6 210 "SightedMonths$Tape" "bytes" "[B", Cond.methodLink RX6 207 yX6_isBlank, Cond.static yX6_isBlank, Cond.code yX6_isBlank cX6_isBlank 1 (some .boolean), Cond.methodLink RX6 184 yX6_isLetter, Cond.static yX6_isLetter, Cond.code yX6_isLetter cX6_isLetter 1 (some .boolean), Cond.methodLink RX6 188 yX6_isDigit, Cond.static yX6_isDigit, Cond.code yX6_isDigit cX6_isDigit 1 (some .boolean), Cond.methodLink RX6 47 yX6_readLine, Cond.instanceMethod yX6_readLine, Cond.selects RX6 yX6_readLine yX6_readLine, Cond.code yX6_readLine cX6_readLine 1 none, Cond.fieldLink RX6 50 "SightedMonths$Almanac" "lines" "I", Cond.methodLink RX6 53 yX6_readFirst]
def wsL_law_r11 : List Cond := [Cond.instanceMethod yX6_readFirst, Cond.selects RX6 yX6_readFirst yX6_readFirst, Cond.code yX6_readFirst cX6_readFirst 4 none, Cond.fieldLink RX6 108 "SightedMonths$Almanac" "months" "I", Cond.fieldLink RX6 110 "SightedMonths$Almanac" "full" "I", Cond.fieldLink RX6 112 "SightedMonths$Almanac" "lean" "I", Cond.methodLink RX6 94 yX6_passWord, Cond.instanceMethod yX6_passWord, Cond.selects RX6 yX6_passWord yX6_passWord, Cond.code yX6_passWord cX6_passWord 2 none, Cond.methodLink RX6 58 yX6_isWord, Cond.instanceMethod yX6_isWord, Cond.selects RX6 yX6_isWord yX6_isWord, Cond.code yX6_isWord cX6_isWord 3 (some .boolean), Cond.methodLink RX6 196 yJ0_length_8abf5, Cond.instanceMethod yJ0_length_8abf5, Cond.selects RJ0 yJ0_length_8abf5 yJ0_length_8abf5, Cond.initialized RJ0, Cond.code yJ0_length_8abf5 cJ0_length_8abf5 1 (some .int), Cond.fieldLink RJ0 9 "java/lang/String" "value" "[B", Cond.methodLink RJ0 335 yJ0_coder_7d493, Cond.instanceMethod yJ0_coder_7d493, Cond.selects RJ0 yJ0_coder_7d493 yJ0_coder_7d493, Cond.code yJ0_coder_7d493 cJ0_coder_7d493 1 (some .byte)]
def wsL_law_r12 : List Cond := [Cond.fieldLink RJ0 38 "java/lang/String" "COMPACT_STRINGS" "Z", Cond.fieldLink RJ0 15 "java/lang/String" "coder" "B", Cond.methodLink RX6 201 yJ0_charAt_5068e, Cond.instanceMethod yJ0_charAt_5068e, Cond.selects RJ0 yJ0_charAt_5068e yJ0_charAt_5068e, Cond.code yJ0_charAt_5068e cJ0_charAt_5068e 2 (some .char), Cond.methodLink RJ0 492 yJ0_isLatin1_aae02, Cond.instanceMethod yJ0_isLatin1_aae02, Cond.selects RJ0 yJ0_isLatin1_aae02 yJ0_isLatin1_aae02, Cond.code yJ0_isLatin1_aae02 cJ0_isLatin1_aae02 1 (some .boolean), Cond.methodLink RJ0 495 yJ1_charAt_3b067, Cond.static yJ1_charAt_3b067, Cond.initialized RJ1, Cond.code yJ1_charAt_3b067 cJ1_charAt_3b067 2 (some .char), Cond.methodLink RJ1 9 yJ0_checkIndex_df160, Cond.static yJ0_checkIndex_df160, Cond.code yJ0_checkIndex_df160 cJ0_checkIndex_df160 2 none, Cond.fieldLink RJ0 1053 "jdk/internal/util/Preconditions" "SIOOBE_FORMATTER" "Ljava/util/function/BiFunction;", Cond.methodLink RJ0 1059 yJ3_checkIndex_8e157, Cond.static yJ3_checkIndex_8e157, Cond.initialized RJ3, Cond.code yJ3_checkIndex_8e157 cJ3_checkIndex_8e157 3 (some .int), Cond.methodLink RJ0 498 yJ2_charAt_3b067, Cond.static yJ2_charAt_3b067]
def wsL_law_r13 : List Cond := [Cond.initialized RJ2, Cond.code yJ2_charAt_3b067 cJ2_charAt_3b067 2 (some .char), Cond.methodLink RJ2 67 yJ2_checkIndex_2214a, Cond.static yJ2_checkIndex_2214a, Cond.code yJ2_checkIndex_2214a cJ2_checkIndex_2214a 2 none, Cond.methodLink RJ2 48 yJ2_length_9d52b, Cond.static yJ2_length_9d52b, Cond.code yJ2_length_9d52b cJ2_length_9d52b 1 (some .int), Cond.methodLink RJ2 414 yJ0_checkIndex_df160, Cond.methodLink RJ2 71 yJ2_getChar_3b067, Cond.static yJ2_getChar_3b067, Cond.code yJ2_getChar_3b067 cJ2_getChar_3b067 2 (some .char), Cond.fieldLink RJ2 44 "java/lang/StringUTF16" "$assertionsDisabled" "Z", Cond.fieldLink RJ2 59 "java/lang/StringUTF16" "HI_BYTE_SHIFT" "I", Cond.fieldLink RJ2 63 "java/lang/StringUTF16" "LO_BYTE_SHIFT" "I", Cond.methodLink RX6 166 yX6_expect, Cond.instanceMethod yX6_expect, Cond.selects RX6 yX6_expect yX6_expect, Cond.code yX6_expect cX6_expect 3 none, Cond.methodLink RX6 85 yX6_blame, Cond.instanceMethod yX6_blame, Cond.selects RX6 yX6_blame yX6_blame, Cond.code yX6_blame cX6_blame 3 none, Cond.methodLink RX6 100 yX6_passNumber]
def wsL_law_r14 : List Cond := [Cond.instanceMethod yX6_passNumber, Cond.selects RX6 yX6_passNumber yX6_passNumber, Cond.code yX6_passNumber cX6_passNumber 4 (some .int), Cond.methodLink RX6 174 yX6_valueHere, Cond.instanceMethod yX6_valueHere, Cond.selects RX6 yX6_valueHere yX6_valueHere, Cond.code yX6_valueHere cX6_valueHere 4 (some .int), Cond.constant RX6 163 (1000000), Cond.methodLink RX6 191 Lib.Math.min.name, Cond.static Lib.Math.min.name, Cond.initialized "java/lang/Math", Cond.code Lib.Math.min.name Lib.Math.min.code 2 (some .int), Cond.methodLink RX6 62 yX6_readMoon, Cond.instanceMethod yX6_readMoon, Cond.selects RX6 yX6_readMoon yX6_readMoon, Cond.code yX6_readMoon cX6_readMoon 3 none, Cond.fieldLink RX6 114 "SightedMonths$Almanac" "hasMoon" "Z", Cond.constant RX6 122 (99999), Cond.methodLink RX6 118 yX6_passHead, Cond.instanceMethod yX6_passHead, Cond.selects RX6 yX6_passHead yX6_passHead, Cond.code yX6_passHead cX6_passHead 2 none, Cond.methodLink RX6 124 yX0_setMoon, Cond.instanceMethod yX0_setMoon]
def wsL_law_r15 : List Cond := [Cond.selects RX0 yX0_setMoon yX0_setMoon, Cond.code yX0_setMoon cX0_setMoon 3 none, Cond.methodLink RX6 67 yX6_readPlace, Cond.instanceMethod yX6_readPlace, Cond.selects RX6 yX6_readPlace yX6_readPlace, Cond.code yX6_readPlace cX6_readPlace 3 none, Cond.fieldLink RX6 127 "SightedMonths$Almanac" "placeCount" "I", Cond.methodLink RX6 130 yX6_passName, Cond.instanceMethod yX6_passName, Cond.selects RX6 yX6_passName yX6_passName, Cond.code yX6_passName cX6_passName 3 (some .int), Cond.methodLink RX6 178 yX6_nameHere, Cond.instanceMethod yX6_nameHere, Cond.selects RX6 yX6_nameHere yX6_nameHere, Cond.code yX6_nameHere cX6_nameHere 4 (some .int), Cond.methodLink RX6 148 yX0_placeNamed, Cond.instanceMethod yX0_placeNamed, Cond.selects RX0 yX0_placeNamed yX0_placeNamed, Cond.code yX0_placeNamed cX0_placeNamed 3 (some .int), Cond.fieldLink RX0 67 "SightedMonths$Place" "name" "I", Cond.methodLink RX6 136 yX0_addPlace, Cond.instanceMethod yX0_addPlace, Cond.selects RX0 yX0_addPlace yX0_addPlace, Cond.code yX0_addPlace cX0_addPlace 3 none]
def wsL_law_r16 : List Cond := [Cond.fieldLink RX0 70 "SightedMonths$Place" "trust" "I", Cond.methodLink RX6 72 yX6_readReport, Cond.instanceMethod yX6_readReport, Cond.selects RX6 yX6_readReport yX6_readReport, Cond.code yX6_readReport cX6_readReport 6 none, Cond.fieldLink RX6 139 "SightedMonths$Almanac" "reportCount" "I", Cond.methodLink RX6 152 yX0_addReport, Cond.instanceMethod yX0_addReport, Cond.selects RX0 yX0_addReport yX0_addReport, Cond.code yX0_addReport cX0_addReport 7 none, Cond.fieldLink RX0 77 "SightedMonths$Report" "place" "I", Cond.fieldLink RX0 80 "SightedMonths$Report" "kind" "I", Cond.fieldLink RX0 83 "SightedMonths$Report" "month" "I", Cond.fieldLink RX0 86 "SightedMonths$Report" "day" "I", Cond.fieldLink RX0 89 "SightedMonths$Report" "known" "I", Cond.fieldLink RX0 96 "SightedMonths$Report" "struck" "Z", Cond.methodLink RX6 82 yX6_readDeed, Cond.instanceMethod yX6_readDeed, Cond.selects RX6 yX6_readDeed yX6_readDeed, Cond.code yX6_readDeed cX6_readDeed 7 none, Cond.fieldLink RX6 156 "SightedMonths$Almanac" "deedCount" "I", Cond.methodLink RX6 170 yX0_addDeed, Cond.instanceMethod yX0_addDeed, Cond.selects RX0 yX0_addDeed yX0_addDeed]
def wsL_law_r17 : List Cond := [Cond.code yX0_addDeed cX0_addDeed 6 none, Cond.fieldLink RX0 99 "SightedMonths$Deed" "month" "I", Cond.fieldLink RX0 100 "SightedMonths$Deed" "day" "I", Cond.fieldLink RX0 101 "SightedMonths$Deed" "length" "I", Cond.fieldLink RX0 104 "SightedMonths$Deed" "inDays" "Z", Cond.methodLink RX6 89 yX6_passSign, Cond.instanceMethod yX6_passSign, Cond.selects RX6 yX6_passSign yX6_passSign, Cond.code yX6_passSign cX6_passSign 1 none, Cond.methodLink RX11 111 yX11_forget, Cond.instanceMethod yX11_forget, Cond.selects RX11 yX11_forget yX11_forget, Cond.code yX11_forget cX11_forget 1 none, Cond.methodLink RL 27 yX12_almanac, Cond.instanceMethod yX12_almanac, Cond.selects RX12 yX12_almanac yX12_almanac, Cond.code yX12_almanac cX12_almanac 1 (some .int), Cond.fieldLink RX12 117 "SightedMonthsModel" "months" "I", Cond.fieldLink RX12 120 "SightedMonthsModel" "mostFull" "I", Cond.fieldLink RX12 123 "SightedMonthsModel" "mostLean" "I", Cond.fieldLink RX12 126 "SightedMonthsModel" "lines" "I", Cond.fieldLink RX12 129 "SightedMonthsModel" "hasMoon" "Z", Cond.fieldLink RX12 132 "SightedMonthsModel" "moonFirst" "I", Cond.fieldLink RX12 135 "SightedMonthsModel" "moonStep" "I"]
def wsL_law_r18 : List Cond := [Cond.fieldLink RX12 138 "SightedMonthsModel" "places" "I", Cond.fieldLink RX12 141 "SightedMonthsModel" "reports" "I", Cond.fieldLink RX12 144 "SightedMonthsModel" "deeds" "I", Cond.fieldLink RX12 151 "SightedMonthsModel" "at" "I", Cond.fieldLink RX12 174 "SightedMonthsModel" "bad" "Z", Cond.fieldLink RX12 177 "SightedMonthsModel" "faultKind" "I", Cond.fieldLink RX12 164 "SightedMonthsModel" "token" "I", Cond.methodLink RX12 283 yX12_movesAll, Cond.instanceMethod yX12_movesAll, Cond.selects RX12 yX12_movesAll yX12_movesAll, Cond.code yX12_movesAll cX12_movesAll 3 none, Cond.fieldLink RX12 106 "SightedMonthsModel" "keeps" "Z", Cond.fieldLink RX12 110 "SightedMonthsModel" "keptAt" "I", Cond.methodLink RX12 113 yX12_moves, Cond.instanceMethod yX12_moves, Cond.selects RX12 yX12_moves yX12_moves, Cond.code yX12_moves cX12_moves 3 (some .int), Cond.methodLink RX12 147 yX12_movesRow, Cond.instanceMethod yX12_movesRow, Cond.selects RX12 yX12_movesRow yX12_movesRow, Cond.code yX12_movesRow cX12_movesRow 3 none, Cond.methodLink RX12 198 yX12_next, Cond.instanceMethod yX12_next, Cond.selects RX12 yX12_next yX12_next]
def wsL_law_r19 : List Cond := [Cond.code yX12_next cX12_next 1 none, Cond.fieldLink RX12 158 "SightedMonthsModel" "begin" "I", Cond.fieldLink RX12 161 "SightedMonthsModel" "value" "I", Cond.constant RX12 167 (100000), Cond.methodLink RX12 168 Lib.Math.min.name, Cond.methodLink RX12 154 yX12_isAt, Cond.instanceMethod yX12_isAt, Cond.selects RX12 yX12_isAt yX12_isAt, Cond.code yX12_isAt cX12_isAt 3 (some .boolean), Cond.methodLink RX12 286 yX12_readsLine, Cond.instanceMethod yX12_readsLine, Cond.selects RX12 yX12_readsLine yX12_readsLine, Cond.code yX12_readsLine cX12_readsLine 1 none, Cond.methodLink RX12 256 yX12_readsHead, Cond.instanceMethod yX12_readsHead, Cond.selects RX12 yX12_readsHead yX12_readsHead, Cond.code yX12_readsHead cX12_readsHead 1 none, Cond.methodLink RX12 209 yX12_word, Cond.instanceMethod yX12_word, Cond.selects RX12 yX12_word yX12_word, Cond.code yX12_word cX12_word 2 none, Cond.methodLink RX12 201 yX12_isWord, Cond.instanceMethod yX12_isWord, Cond.selects RX12 yX12_isWord yX12_isWord]
def wsL_law_r20 : List Cond := [Cond.code yX12_isWord cX12_isWord 4 (some .boolean), Cond.methodLink RX12 184 yJ0_length_8abf5, Cond.methodLink RX12 190 yJ0_charAt_5068e, Cond.methodLink RX12 205 yX12_passes, Cond.instanceMethod yX12_passes, Cond.selects RX12 yX12_passes yX12_passes, Cond.code yX12_passes cX12_passes 2 none, Cond.methodLink RX12 194 yX12_faults, Cond.instanceMethod yX12_faults, Cond.selects RX12 yX12_faults yX12_faults, Cond.code yX12_faults cX12_faults 2 none, Cond.methodLink RX12 180 yX12_faultsAt, Cond.instanceMethod yX12_faultsAt, Cond.selects RX12 yX12_faultsAt yX12_faultsAt, Cond.code yX12_faultsAt cX12_faultsAt 3 none, Cond.methodLink RX12 223 yX12_numberBehind, Cond.instanceMethod yX12_numberBehind, Cond.selects RX12 yX12_numberBehind yX12_numberBehind, Cond.code yX12_numberBehind cX12_numberBehind 4 (some .int), Cond.methodLink RX12 213 yX12_number, Cond.instanceMethod yX12_number, Cond.selects RX12 yX12_number yX12_number, Cond.code yX12_number cX12_number 4 (some .int), Cond.methodLink RX12 261 yX12_readsMoon]
def wsL_law_r21 : List Cond := [Cond.instanceMethod yX12_readsMoon, Cond.selects RX12 yX12_readsMoon yX12_readsMoon, Cond.code yX12_readsMoon cX12_readsMoon 1 none, Cond.constant RX12 247 (99999), Cond.methodLink RX12 266 yX12_readsPlace, Cond.instanceMethod yX12_readsPlace, Cond.selects RX12 yX12_readsPlace yX12_readsPlace, Cond.code yX12_readsPlace cX12_readsPlace 2 none, Cond.methodLink RX12 216 yX12_named, Cond.instanceMethod yX12_named, Cond.selects RX12 yX12_named yX12_named, Cond.code yX12_named cX12_named 4 (some .int), Cond.methodLink RX12 275 yX12_readsReport, Cond.instanceMethod yX12_readsReport, Cond.selects RX12 yX12_readsReport yX12_readsReport, Cond.code yX12_readsReport cX12_readsReport 6 none, Cond.methodLink RX12 227 yX12_placeHere, Cond.instanceMethod yX12_placeHere, Cond.selects RX12 yX12_placeHere yX12_placeHere, Cond.code yX12_placeHere cX12_placeHere 2 (some .int), Cond.methodLink RX12 219 Lib.Math.max.name, Cond.static Lib.Math.max.name, Cond.code Lib.Math.max.name Lib.Math.max.code 2 (some .int), Cond.methodLink RX12 236 yX12_lays]
def wsL_law_r22 : List Cond := [Cond.instanceMethod yX12_lays, Cond.selects RX12 yX12_lays yX12_lays, Cond.code yX12_lays cX12_lays 6 none, Cond.methodLink RX12 280 yX12_readsDeed, Cond.instanceMethod yX12_readsDeed, Cond.selects RX12 yX12_readsDeed yX12_readsDeed, Cond.code yX12_readsDeed cX12_readsDeed 6 none, Cond.methodLink RL 28 yX11_fault, Cond.instanceMethod yX11_fault, Cond.selects RX11 yX11_fault yX11_fault, Cond.code yX11_fault cX11_fault 2 (some .int), Cond.fieldLink RX11 117 "SightedMonths$Reader" "faultPlace" "I", Cond.methodLink RL 31 yX12_fault, Cond.instanceMethod yX12_fault, Cond.selects RX12 yX12_fault yX12_fault, Cond.code yX12_fault cX12_fault 2 (some .int), Cond.methodLink RL 32 yX11_count, Cond.instanceMethod yX11_count, Cond.selects RX11 yX11_count yX11_count, Cond.code yX11_count cX11_count 2 (some .int), Cond.fieldLink RX11 120 "SightedMonths$Almanac" "months" "I", Cond.fieldLink RX11 123 "SightedMonths$Almanac" "full" "I", Cond.fieldLink RX11 126 "SightedMonths$Almanac" "lean" "I", Cond.fieldLink RX11 129 "SightedMonths$Almanac" "placeCount" "I"]
def wsL_law_r23 : List Cond := [Cond.fieldLink RX11 132 "SightedMonths$Almanac" "reportCount" "I", Cond.fieldLink RX11 135 "SightedMonths$Almanac" "deedCount" "I", Cond.fieldLink RX11 138 "SightedMonths$Almanac" "moonStart" "I", Cond.fieldLink RX11 141 "SightedMonths$Almanac" "moonStep" "I", Cond.methodLink RL 35 yX12_count, Cond.instanceMethod yX12_count, Cond.selects RX12 yX12_count yX12_count, Cond.code yX12_count cX12_count 2 (some .int), Cond.fieldLink RX12 289 "SightedMonthsModel" "outs" "I", Cond.methodLink RL 36 yX11_place, Cond.instanceMethod yX11_place, Cond.selects RX11 yX11_place yX11_place, Cond.code yX11_place cX11_place 3 (some .int), Cond.fieldLink RX11 148 "SightedMonths$Almanac" "places" "[LSightedMonths$Place;", Cond.fieldLink RX11 152 "SightedMonths$Place" "trust" "I", Cond.methodLink RX11 144 yX11_hasPlace, Cond.instanceMethod yX11_hasPlace, Cond.selects RX11 yX11_hasPlace yX11_hasPlace, Cond.code yX11_hasPlace cX11_hasPlace 2 (some .boolean), Cond.methodLink RX11 157 yX0_namesAhead, Cond.instanceMethod yX0_namesAhead, Cond.selects RX0 yX0_namesAhead yX0_namesAhead, Cond.code yX0_namesAhead cX0_namesAhead 4 (some .int), Cond.methodLink RX11 161 yX0_standingOf]
def wsL_law_r24 : List Cond := [Cond.instanceMethod yX0_standingOf, Cond.selects RX0 yX0_standingOf yX0_standingOf, Cond.code yX0_standingOf cX0_standingOf 4 (some .int), Cond.methodLink RL 40 yX12_place, Cond.instanceMethod yX12_place, Cond.selects RX12 yX12_place yX12_place, Cond.code yX12_place cX12_place 6 (some .int), Cond.constantLong RX12 298 (2), Cond.methodLink RX12 294 yX12_isPlace, Cond.instanceMethod yX12_isPlace, Cond.selects RX12 yX12_isPlace yX12_isPlace, Cond.code yX12_isPlace cX12_isPlace 2 (some .boolean), Cond.methodLink RX12 300 yX12_isNameAhead, Cond.instanceMethod yX12_isNameAhead, Cond.selects RX12 yX12_isNameAhead yX12_isNameAhead, Cond.code yX12_isNameAhead cX12_isNameAhead 6 (some .boolean), Cond.methodLink RL 41 yX11_report, Cond.instanceMethod yX11_report, Cond.selects RX11 yX11_report yX11_report, Cond.code yX11_report cX11_report 4 (some .int), Cond.fieldLink RX11 167 "SightedMonths$Almanac" "reports" "[LSightedMonths$Report;", Cond.fieldLink RX11 171 "SightedMonths$Report" "place" "I", Cond.fieldLink RX11 176 "SightedMonths$Report" "struck" "Z", Cond.fieldLink RX11 179 "SightedMonths$Report" "kind" "I"]
def wsL_law_r25 : List Cond := [Cond.fieldLink RX11 182 "SightedMonths$Report" "month" "I", Cond.fieldLink RX11 185 "SightedMonths$Report" "day" "I", Cond.fieldLink RX11 188 "SightedMonths$Report" "known" "I", Cond.methodLink RX11 164 yX11_hasReport, Cond.instanceMethod yX11_hasReport, Cond.selects RX11 yX11_hasReport yX11_hasReport, Cond.code yX11_hasReport cX11_hasReport 2 (some .boolean), Cond.methodLink RL 44 yX12_report, Cond.instanceMethod yX12_report, Cond.selects RX12 yX12_report yX12_report, Cond.code yX12_report cX12_report 3 (some .int), Cond.methodLink RX12 303 yX12_isReport, Cond.instanceMethod yX12_isReport, Cond.selects RX12 yX12_isReport yX12_isReport, Cond.code yX12_isReport cX12_isReport 2 (some .boolean), Cond.methodLink RL 45 yX11_deed, Cond.instanceMethod yX11_deed, Cond.selects RX11 yX11_deed yX11_deed, Cond.code yX11_deed cX11_deed 4 (some .int), Cond.fieldLink RX11 194 "SightedMonths$Almanac" "deeds" "[LSightedMonths$Deed;", Cond.fieldLink RX11 198 "SightedMonths$Deed" "month" "I", Cond.fieldLink RX11 201 "SightedMonths$Deed" "day" "I", Cond.fieldLink RX11 202 "SightedMonths$Deed" "length" "I", Cond.fieldLink RX11 203 "SightedMonths$Deed" "inDays" "Z"]
def wsL_law_r26 : List Cond := [Cond.methodLink RX11 191 yX11_hasDeed, Cond.instanceMethod yX11_hasDeed, Cond.selects RX11 yX11_hasDeed yX11_hasDeed, Cond.code yX11_hasDeed cX11_hasDeed 2 (some .boolean), Cond.methodLink RL 48 yX12_deed, Cond.instanceMethod yX12_deed, Cond.selects RX12 yX12_deed yX12_deed, Cond.code yX12_deed cX12_deed 3 (some .int), Cond.methodLink RX12 306 yX12_isDeed, Cond.instanceMethod yX12_isDeed, Cond.selects RX12 yX12_isDeed yX12_isDeed, Cond.code yX12_isDeed cX12_isDeed 2 (some .boolean), Cond.methodLink RL 49 yX11_early, Cond.instanceMethod yX11_early, Cond.selects RX11 yX11_early yX11_early, Cond.code yX11_early cX11_early 2 (some .int), Cond.fieldLink RX11 206 "SightedMonths$Almanac" "hasMoon" "Z", Cond.methodLink RX11 209 yX11_hasMonth, Cond.instanceMethod yX11_hasMonth, Cond.selects RX11 yX11_hasMonth yX11_hasMonth, Cond.code yX11_hasMonth cX11_hasMonth 4 (some .boolean), Cond.methodLink RX11 395 yX11_isTold, Cond.instanceMethod yX11_isTold, Cond.selects RX11 yX11_isTold yX11_isTold]
def wsL_law_r27 : List Cond := [Cond.code yX11_isTold cX11_isTold 1 (some .boolean), Cond.methodLink RX11 213 yX0_earlyOf, Cond.instanceMethod yX0_earlyOf, Cond.selects RX0 yX0_earlyOf yX0_earlyOf, Cond.code yX0_earlyOf cX0_earlyOf 2 (some .int), Cond.methodLink RL 52 yX12_early, Cond.instanceMethod yX12_early, Cond.selects RX12 yX12_early yX12_early, Cond.code yX12_early cX12_early 2 (some .int), Cond.methodLink RX12 309 yX12_earlyOf, Cond.instanceMethod yX12_earlyOf, Cond.selects RX12 yX12_earlyOf yX12_earlyOf, Cond.code yX12_earlyOf cX12_earlyOf 2 (some .int), Cond.methodLink RL 53 yX11_judged, Cond.instanceMethod yX11_judged, Cond.selects RX11 yX11_judged yX11_judged, Cond.code yX11_judged cX11_judged 3 (some .int), Cond.fieldLink RX11 223 "SightedMonths$Court" "verdicts" "[I", Cond.methodLink RX11 216 yX11_hasTime, Cond.instanceMethod yX11_hasTime, Cond.selects RX11 yX11_hasTime yX11_hasTime, Cond.code yX11_hasTime cX11_hasTime 2 (some .boolean), Cond.methodLink RX11 219 yX11_courtBy, Cond.instanceMethod yX11_courtBy]
def wsL_law_r28 : List Cond := [Cond.selects RX11 yX11_courtBy yX11_courtBy, Cond.code yX11_courtBy cX11_courtBy 3 (some (.object "SightedMonths$Court")), Cond.methodLink RX11 403 yX0_latestNews, Cond.instanceMethod yX0_latestNews, Cond.selects RX0 yX0_latestNews yX0_latestNews, Cond.code yX0_latestNews cX0_latestNews 4 (some .int), Cond.methodLink RX0 115 Lib.Math.max.name, Cond.methodLink RX0 111 yX7_isKnownBy, Cond.instanceMethod yX7_isKnownBy, Cond.selects RX7 yX7_isKnownBy yX7_isKnownBy, Cond.code yX7_isKnownBy cX7_isKnownBy 2 (some .boolean), Cond.fieldLink RX7 7 "SightedMonths$Report" "struck" "Z", Cond.fieldLink RX7 13 "SightedMonths$Report" "known" "I", Cond.methodLink RX11 254 yX1_judge, Cond.instanceMethod yX1_judge, Cond.selects RX1 yX1_judge yX1_judge, Cond.code yX1_judge cX1_judge 5 none, Cond.fieldLink RX1 47 "SightedMonths$Almanac" "reports" "[LSightedMonths$Report;", Cond.methodLink RX1 39 yX1_lineUp, Cond.instanceMethod yX1_lineUp, Cond.selects RX1 yX1_lineUp yX1_lineUp, Cond.code yX1_lineUp cX1_lineUp 4 none, Cond.fieldLink RX1 65 "SightedMonths$Almanac" "reportCount" "I", Cond.methodLink RX1 68 yX7_isKnownBy]
def wsL_law_r29 : List Cond := [Cond.methodLink RX1 74 yX1_turnOf, Cond.static yX1_turnOf, Cond.code yX1_turnOf cX1_turnOf 6 (some .long), Cond.fieldLink RX1 82 "SightedMonths$Almanac" "places" "[LSightedMonths$Place;", Cond.fieldLink RX1 86 "SightedMonths$Report" "place" "I", Cond.fieldLink RX1 89 "SightedMonths$Place" "trust" "I", Cond.constantLong RX1 94 (387420489), Cond.fieldLink RX1 96 "SightedMonths$Place" "name" "I", Cond.constantLong RX1 99 (24), Cond.fieldLink RX1 101 "SightedMonths$Report" "month" "I", Cond.constantLong RX1 104 (1000), Cond.fieldLink RX1 106 "SightedMonths$Report" "day" "I", Cond.constantLong RX1 109 (3), Cond.fieldLink RX1 111 "SightedMonths$Report" "kind" "I", Cond.methodLink RX1 78 yX1_insert, Cond.instanceMethod yX1_insert, Cond.selects RX1 yX1_insert yX1_insert, Cond.code yX1_insert cX1_insert 5 none, Cond.methodLink RX1 43 yX3_open, Cond.instanceMethod yX3_open, Cond.selects RX3 yX3_open yX3_open, Cond.code yX3_open cX3_open 3 none, Cond.fieldLink RX3 18 "SightedMonths$Almanac" "months" "I", Cond.fieldLink RX3 24 "SightedMonths$Frame" "months" "I"]
def wsL_law_r30 : List Cond := [Cond.fieldLink RX3 25 "SightedMonths$Almanac" "full" "I", Cond.fieldLink RX3 28 "SightedMonths$Frame" "full" "I", Cond.fieldLink RX3 29 "SightedMonths$Almanac" "lean" "I", Cond.fieldLink RX3 32 "SightedMonths$Frame" "lean" "I", Cond.methodLink RX1 53 yX1_verdictOn, Cond.instanceMethod yX1_verdictOn, Cond.selects RX1 yX1_verdictOn yX1_verdictOn, Cond.code yX1_verdictOn cX1_verdictOn 5 (some .int), Cond.fieldLink RX1 114 "SightedMonths$Almanac" "hasMoon" "Z", Cond.fieldLink RX1 122 "SightedMonths$Frame" "allowed" "[I", Cond.methodLink RX1 118 yX0_earlyOf, Cond.methodLink RX1 125 yX3_narrow, Cond.instanceMethod yX3_narrow, Cond.selects RX3 yX3_narrow yX3_narrow, Cond.code yX3_narrow cX3_narrow 2 none, Cond.fieldLink RX3 33 "SightedMonths$Report" "month" "I", Cond.methodLink RX3 44 yX3_rightFor, Cond.static yX3_rightFor, Cond.code yX3_rightFor cX3_rightFor 3 (some .int), Cond.fieldLink RX3 38 "SightedMonths$Report" "day" "I", Cond.fieldLink RX3 41 "SightedMonths$Report" "kind" "I", Cond.methodLink RX1 57 yX3_fits, Cond.instanceMethod yX3_fits, Cond.selects RX3 yX3_fits yX3_fits]
def wsL_law_r31 : List Cond := [Cond.code yX3_fits cX3_fits 6 (some .boolean), Cond.static yX11_firstRun, Cond.code yX11_firstRun cX11_firstRun 1 (some .int), Cond.static yX11_lastRun, Cond.code yX11_lastRun cX11_lastRun 3 (some .int), Cond.static yX11_runWithFull, Cond.code yX11_runWithFull cX11_runWithFull 2 (some .int), Cond.static yX11_runWithLean, Cond.code yX11_runWithLean cX11_runWithLean 3 (some .int), Cond.methodLink RX1 61 yX3_beginsInto, Cond.instanceMethod yX3_beginsInto, Cond.selects RX3 yX3_beginsInto yX3_beginsInto, Cond.code yX3_beginsInto cX3_beginsInto 6 none, Cond.static yX11_dayOf, Cond.code yX11_dayOf cX11_dayOf 2 (some .int), Cond.methodLink RL 56 yX12_judged, Cond.instanceMethod yX12_judged, Cond.selects RX12 yX12_judged yX12_judged, Cond.code yX12_judged cX12_judged 3 (some .int), Cond.methodLink RX12 359 yX12_isTime, Cond.instanceMethod yX12_isTime, Cond.selects RX12 yX12_isTime yX12_isTime, Cond.code yX12_isTime cX12_isTime 2 (some .boolean), Cond.constantLong RX12 292 (999)]
def wsL_law_r32 : List Cond := [Cond.methodLink RX12 362 yX12_judgesAll, Cond.instanceMethod yX12_judgesAll, Cond.selects RX12 yX12_judgesAll yX12_judgesAll, Cond.code yX12_judgesAll cX12_judgesAll 3 none, Cond.fieldLink RX12 338 "SightedMonthsModel" "rowMany" "I", Cond.methodLink RX12 350 yX12_frees, Cond.instanceMethod yX12_frees, Cond.selects RX12 yX12_frees yX12_frees, Cond.code yX12_frees cX12_frees 2 none, Cond.fieldLink RX12 312 "SightedMonthsModel" "isBroken" "Z", Cond.methodLink RX12 315 yX12_unpins, Cond.instanceMethod yX12_unpins, Cond.selects RX12 yX12_unpins yX12_unpins, Cond.code yX12_unpins cX12_unpins 2 none, Cond.methodLink RX12 353 yX12_laysRow, Cond.instanceMethod yX12_laysRow, Cond.selects RX12 yX12_laysRow yX12_laysRow, Cond.code yX12_laysRow cX12_laysRow 4 none, Cond.methodLink RX12 341 yX12_isKnown, Cond.instanceMethod yX12_isKnown, Cond.selects RX12 yX12_isKnown yX12_isKnown, Cond.code yX12_isKnown cX12_isKnown 3 (some .boolean), Cond.methodLink RX12 344 yX12_isAhead, Cond.instanceMethod yX12_isAhead]
def wsL_law_r33 : List Cond := [Cond.selects RX12 yX12_isAhead yX12_isAhead, Cond.code yX12_isAhead cX12_isAhead 5 (some .boolean), Cond.methodLink RX12 335 yX12_trustOf, Cond.instanceMethod yX12_trustOf, Cond.selects RX12 yX12_trustOf yX12_trustOf, Cond.code yX12_trustOf cX12_trustOf 2 (some .int), Cond.methodLink RX12 356 yX12_judges, Cond.instanceMethod yX12_judges, Cond.selects RX12 yX12_judges yX12_judges, Cond.code yX12_judges cX12_judges 5 (some .int), Cond.methodLink RX12 347 yX12_holds, Cond.instanceMethod yX12_holds, Cond.selects RX12 yX12_holds yX12_holds, Cond.code yX12_holds cX12_holds 4 none, Cond.methodLink RX12 332 yX12_counts, Cond.instanceMethod yX12_counts, Cond.selects RX12 yX12_counts yX12_counts, Cond.code yX12_counts cX12_counts 6 (some .int), Cond.methodLink RX12 325 yX12_isOpen, Cond.instanceMethod yX12_isOpen, Cond.selects RX12 yX12_isOpen yX12_isOpen, Cond.code yX12_isOpen cX12_isOpen 3 (some .boolean), Cond.methodLink RX12 328 yX12_waysBy, Cond.instanceMethod yX12_waysBy]
def wsL_law_r34 : List Cond := [Cond.selects RX12 yX12_waysBy yX12_waysBy, Cond.code yX12_waysBy cX12_waysBy 6 (some .int), Cond.methodLink RX12 318 yX12_runBehind, Cond.instanceMethod yX12_runBehind, Cond.selects RX12 yX12_runBehind yX12_runBehind, Cond.code yX12_runBehind cX12_runBehind 4 (some .int), Cond.methodLink RX12 321 yX12_placeOf, Cond.static yX12_placeOf, Cond.code yX12_placeOf cX12_placeOf 3 (some .int), Cond.methodLink RL 57 yX11_taken, Cond.instanceMethod yX11_taken, Cond.selects RX11 yX11_taken yX11_taken, Cond.code yX11_taken cX11_taken 2 (some .int), Cond.fieldLink RX11 226 "SightedMonths$Court" "takenBits" "I", Cond.methodLink RX11 229 yJ6_bitCount_0f7a4, Cond.static yJ6_bitCount_0f7a4, Cond.initialized RJ6, Cond.code yJ6_bitCount_0f7a4 cJ6_bitCount_0f7a4 1 (some .int), Cond.constant RJ6 265 (1431655765), Cond.constant RJ6 266 (858993459), Cond.constant RJ6 267 (252645135), Cond.methodLink RL 60 yX12_taken, Cond.instanceMethod yX12_taken, Cond.selects RX12 yX12_taken yX12_taken]
def wsL_law_r35 : List Cond := [Cond.code yX12_taken cX12_taken 2 (some .int), Cond.methodLink RX12 365 yX12_takenBits, Cond.instanceMethod yX12_takenBits, Cond.selects RX12 yX12_takenBits yX12_takenBits, Cond.code yX12_takenBits cX12_takenBits 3 (some .int), Cond.methodLink RX12 368 yJ6_bitCount_0f7a4, Cond.methodLink RL 61 yX11_order, Cond.instanceMethod yX11_order, Cond.selects RX11 yX11_order yX11_order, Cond.code yX11_order cX11_order 4 (some .int), Cond.fieldLink RX11 234 "SightedMonths$Court" "queueLength" "I", Cond.fieldLink RX11 237 "SightedMonths$Court" "queue" "[I", Cond.methodLink RL 64 yX12_order, Cond.instanceMethod yX12_order, Cond.selects RX12 yX12_order yX12_order, Cond.code yX12_order cX12_order 3 (some .int), Cond.methodLink RL 65 yX11_against, Cond.instanceMethod yX11_against, Cond.selects RX11 yX11_against yX11_against, Cond.code yX11_against cX11_against 6 (some .int), Cond.methodLink RX11 240 yX11_canBothBe, Cond.instanceMethod yX11_canBothBe, Cond.selects RX11 yX11_canBothBe yX11_canBothBe, Cond.code yX11_canBothBe cX11_canBothBe 3 (some .boolean)]
def wsL_law_r36 : List Cond := [Cond.methodLink RX11 355 yX3_open, Cond.methodLink RX11 412 yX3_narrow, Cond.methodLink RX11 415 yX3_fits, Cond.methodLink RL 68 yX12_against, Cond.instanceMethod yX12_against, Cond.selects RX12 yX12_against yX12_against, Cond.code yX12_against cX12_against 5 (some .int), Cond.methodLink RX12 373 yX12_areBoth, Cond.instanceMethod yX12_areBoth, Cond.selects RX12 yX12_areBoth yX12_areBoth, Cond.code yX12_areBoth cX12_areBoth 3 (some .boolean), Cond.methodLink RL 69 yX11_blind, Cond.instanceMethod yX11_blind, Cond.selects RX11 yX11_blind yX11_blind, Cond.code yX11_blind cX11_blind 6 (some .int), Cond.methodLink RX11 244 yX7_isKnownBy, Cond.methodLink RL 72 yX12_blind, Cond.instanceMethod yX12_blind, Cond.selects RX12 yX12_blind yX12_blind, Cond.code yX12_blind cX12_blind 5 (some .int), Cond.methodLink RL 73 yX11_ways, Cond.instanceMethod yX11_ways, Cond.selects RX11 yX11_ways yX11_ways, Cond.code yX11_ways cX11_ways 2 (some .int)]
def wsL_law_r37 : List Cond := [Cond.methodLink RX11 275 yX11_tallyBy, Cond.instanceMethod yX11_tallyBy, Cond.selects RX11 yX11_tallyBy yX11_tallyBy, Cond.code yX11_tallyBy cX11_tallyBy 3 (some (.object "SightedMonths$Tally")), Cond.fieldLink RX11 338 "SightedMonths$Court" "frame" "LSightedMonths$Frame;", Cond.methodLink RX11 406 yX9_fill, Cond.instanceMethod yX9_fill, Cond.selects RX9 yX9_fill yX9_fill, Cond.code yX9_fill cX9_fill 2 none, Cond.fieldLink RX9 21 "SightedMonths$Frame" "months" "I", Cond.fieldLink RX9 27 "SightedMonths$Tally" "months" "I", Cond.fieldLink RX9 28 "SightedMonths$Frame" "full" "I", Cond.fieldLink RX9 31 "SightedMonths$Tally" "full" "I", Cond.fieldLink RX9 32 "SightedMonths$Frame" "lean" "I", Cond.fieldLink RX9 35 "SightedMonths$Tally" "lean" "I", Cond.methodLink RX9 36 yJ7_fill_53178, Cond.static yJ7_fill_53178, Cond.initialized RJ7, Cond.code yJ7_fill_53178 cJ7_fill_53178 4 none, Cond.methodLink RX9 42 yX9_countBefore, Cond.instanceMethod yX9_countBefore, Cond.selects RX9 yX9_countBefore yX9_countBefore, Cond.code yX9_countBefore cX9_countBefore 4 none, Cond.methodLink RX9 52 yX3_allows]
def wsL_law_r38 : List Cond := [Cond.instanceMethod yX3_allows, Cond.selects RX3 yX3_allows yX3_allows, Cond.code yX3_allows cX3_allows 3 (some .boolean), Cond.methodLink RX9 56 yX9_takeOnWithFull, Cond.instanceMethod yX9_takeOnWithFull, Cond.selects RX9 yX9_takeOnWithFull yX9_takeOnWithFull, Cond.code yX9_takeOnWithFull cX9_takeOnWithFull 7 none, Cond.static yX11_spot, Cond.code yX11_spot cX11_spot 3 (some .int), Cond.methodLink RX11 425 yX11_cell, Cond.static yX11_cell, Cond.code yX11_cell cX11_cell 2 (some .int), Cond.methodLink RX9 60 yX9_takeOnWithLean, Cond.instanceMethod yX9_takeOnWithLean, Cond.selects RX9 yX9_takeOnWithLean yX9_takeOnWithLean, Cond.code yX9_takeOnWithLean cX9_takeOnWithLean 7 none, Cond.methodLink RX9 46 yX9_countBehind, Cond.instanceMethod yX9_countBehind, Cond.selects RX9 yX9_countBehind yX9_countBehind, Cond.code yX9_countBehind cX9_countBehind 6 none, Cond.methodLink RX9 81 Lib.Math.min.name, Cond.methodLink RX9 86 yX9_withFull, Cond.instanceMethod yX9_withFull, Cond.selects RX9 yX9_withFull yX9_withFull]
def wsL_law_r39 : List Cond := [Cond.code yX9_withFull cX9_withFull 4 (some .int), Cond.methodLink RX9 89 yX9_withLean, Cond.instanceMethod yX9_withLean, Cond.selects RX9 yX9_withLean yX9_withLean, Cond.code yX9_withLean cX9_withLean 4 (some .int), Cond.methodLink RX9 49 yX9_countStarts, Cond.instanceMethod yX9_countStarts, Cond.selects RX9 yX9_countStarts yX9_countStarts, Cond.code yX9_countStarts cX9_countStarts 6 none, Cond.methodLink RX11 279 yX9_total, Cond.instanceMethod yX9_total, Cond.selects RX9 yX9_total yX9_total, Cond.code yX9_total cX9_total 1 (some .int), Cond.methodLink RL 76 yX12_ways, Cond.instanceMethod yX12_ways, Cond.selects RX12 yX12_ways yX12_ways, Cond.code yX12_ways cX12_ways 2 (some .int), Cond.methodLink RL 77 yX11_begin, Cond.instanceMethod yX11_begin, Cond.selects RX11 yX11_begin yX11_begin, Cond.code yX11_begin cX11_begin 3 (some .int), Cond.fieldLink RX11 258 "SightedMonths$Court" "begins" "[I", Cond.methodLink RL 80 yX12_begin, Cond.instanceMethod yX12_begin]
def wsL_law_r40 : List Cond := [Cond.selects RX12 yX12_begin yX12_begin, Cond.code yX12_begin cX12_begin 3 (some .int), Cond.methodLink RX12 379 yX12_isBegin, Cond.instanceMethod yX12_isBegin, Cond.selects RX12 yX12_isBegin yX12_isBegin, Cond.code yX12_isBegin cX12_isBegin 2 (some .boolean), Cond.methodLink RX12 382 yX12_officialBy, Cond.instanceMethod yX12_officialBy, Cond.selects RX12 yX12_officialBy yX12_officialBy, Cond.code yX12_officialBy cX12_officialBy 2 none, Cond.methodLink RX12 376 yX12_laysOfficial, Cond.instanceMethod yX12_laysOfficial, Cond.selects RX12 yX12_laysOfficial yX12_laysOfficial, Cond.code yX12_laysOfficial cX12_laysOfficial 5 none, Cond.methodLink RL 81 yX11_span, Cond.instanceMethod yX11_span, Cond.selects RX11 yX11_span yX11_span, Cond.code yX11_span cX11_span 4 (some .int), Cond.methodLink RX11 283 yX11_isEither, Cond.static yX11_isEither, Cond.code yX11_isEither cX11_isEither 1 (some .boolean), Cond.methodLink RX11 286 yX9_bound, Cond.instanceMethod yX9_bound, Cond.selects RX9 yX9_bound yX9_bound]
def wsL_law_r41 : List Cond := [Cond.code yX9_bound cX9_bound 5 (some .int), Cond.methodLink RL 85 yX12_span, Cond.instanceMethod yX12_span, Cond.selects RX12 yX12_span yX12_span, Cond.code yX12_span cX12_span 4 (some .int), Cond.methodLink RX12 391 yX12_spanOf, Cond.instanceMethod yX12_spanOf, Cond.selects RX12 yX12_spanOf yX12_spanOf, Cond.code yX12_spanOf cX12_spanOf 5 (some .int), Cond.methodLink RX12 388 yX12_beginsOn, Cond.instanceMethod yX12_beginsOn, Cond.selects RX12 yX12_beginsOn yX12_beginsOn, Cond.code yX12_beginsOn cX12_beginsOn 3 (some .int), Cond.methodLink RX12 385 yX12_countsWith, Cond.instanceMethod yX12_countsWith, Cond.selects RX12 yX12_countsWith yX12_countsWith, Cond.code yX12_countsWith cX12_countsWith 9 (some .int), Cond.methodLink RL 86 yX11_sure, Cond.instanceMethod yX11_sure, Cond.selects RX11 yX11_sure yX11_sure, Cond.code yX11_sure cX11_sure 5 (some .int), Cond.methodLink RL 89 yX12_sure, Cond.instanceMethod yX12_sure, Cond.selects RX12 yX12_sure yX12_sure]
def wsL_law_r42 : List Cond := [Cond.code yX12_sure cX12_sure 4 (some .int), Cond.methodLink RL 90 yX11_lasts, Cond.instanceMethod yX11_lasts, Cond.selects RX11 yX11_lasts yX11_lasts, Cond.code yX11_lasts cX11_lasts 3 (some .int), Cond.methodLink RX11 358 yX1_lengthOf, Cond.instanceMethod yX1_lengthOf, Cond.selects RX1 yX1_lengthOf yX1_lengthOf, Cond.code yX1_lengthOf cX1_lengthOf 2 (some .int), Cond.methodLink RL 93 yX12_lasts, Cond.instanceMethod yX12_lasts, Cond.selects RX12 yX12_lasts yX12_lasts, Cond.code yX12_lasts cX12_lasts 3 (some .int), Cond.methodLink RX12 394 yX12_isMonth, Cond.instanceMethod yX12_isMonth, Cond.selects RX12 yX12_isMonth yX12_isMonth, Cond.code yX12_isMonth cX12_isMonth 2 (some .boolean), Cond.methodLink RL 94 yX11_could, Cond.instanceMethod yX11_could, Cond.selects RX11 yX11_could yX11_could, Cond.code yX11_could cX11_could 4 (some .int), Cond.methodLink RX11 290 yX9_onDay, Cond.instanceMethod yX9_onDay, Cond.selects RX9 yX9_onDay yX9_onDay]
def wsL_law_r43 : List Cond := [Cond.code yX9_onDay cX9_onDay 4 (some .int), Cond.methodLink RL 97 yX12_could, Cond.instanceMethod yX12_could, Cond.selects RX12 yX12_could yX12_could, Cond.code yX12_could cX12_could 4 (some .int), Cond.methodLink RL 98 yX11_lean, Cond.instanceMethod yX11_lean, Cond.selects RX11 yX11_lean yX11_lean, Cond.code yX11_lean cX11_lean 3 (some .int), Cond.methodLink RX11 294 yX9_leanIn, Cond.instanceMethod yX9_leanIn, Cond.selects RX9 yX9_leanIn yX9_leanIn, Cond.code yX9_leanIn cX9_leanIn 5 (some .int), Cond.methodLink RL 101 yX12_lean, Cond.instanceMethod yX12_lean, Cond.selects RX12 yX12_lean yX12_lean, Cond.code yX12_lean cX12_lean 5 (some .int), Cond.methodLink RL 102 yX11_ranked, Cond.instanceMethod yX11_ranked, Cond.selects RX11 yX11_ranked yX11_ranked, Cond.code yX11_ranked cX11_ranked 5 (some .int), Cond.methodLink RX11 297 yX9_beginOf, Cond.instanceMethod yX9_beginOf, Cond.selects RX9 yX9_beginOf yX9_beginOf]
def wsL_law_r44 : List Cond := [Cond.code yX9_beginOf cX9_beginOf 8 (some .int), Cond.methodLink RL 105 yX12_ranked, Cond.instanceMethod yX12_ranked, Cond.selects RX12 yX12_ranked yX12_ranked, Cond.code yX12_ranked cX12_ranked 4 (some .int), Cond.methodLink RX12 400 yX12_laysRanked, Cond.instanceMethod yX12_laysRanked, Cond.selects RX12 yX12_laysRanked yX12_laysRanked, Cond.code yX12_laysRanked cX12_laysRanked 8 none, Cond.fieldLink RX12 397 "SightedMonthsModel" "rankedFull" "I", Cond.methodLink RL 106 yX11_rank, Cond.instanceMethod yX11_rank, Cond.selects RX11 yX11_rank yX11_rank, Cond.code yX11_rank cX11_rank 3 (some .int), Cond.methodLink RX11 300 yX9_indexOf, Cond.instanceMethod yX9_indexOf, Cond.selects RX9 yX9_indexOf yX9_indexOf, Cond.code yX9_indexOf cX9_indexOf 6 (some .int), Cond.methodLink RL 109 yX12_rank, Cond.instanceMethod yX12_rank, Cond.selects RX12 yX12_rank yX12_rank, Cond.code yX12_rank cX12_rank 8 (some .int), Cond.methodLink RL 110 yX11_drawn, Cond.instanceMethod yX11_drawn]
def wsL_law_r45 : List Cond := [Cond.selects RX11 yX11_drawn yX11_drawn, Cond.code yX11_drawn cX11_drawn 5 (some .int), Cond.constant RX11 303 (1103515245), Cond.methodLink RL 113 yX12_drawn, Cond.instanceMethod yX12_drawn, Cond.selects RX12 yX12_drawn yX12_drawn, Cond.code yX12_drawn cX12_drawn 3 (some .int), Cond.constant RX12 403 (1103515245), Cond.methodLink RL 114 yX11_day, Cond.instanceMethod yX11_day, Cond.selects RX11 yX11_day yX11_day, Cond.code yX11_day cX11_day 4 (some .int), Cond.methodLink RX11 314 yX11_hasDate, Cond.instanceMethod yX11_hasDate, Cond.selects RX11 yX11_hasDate yX11_hasDate, Cond.code yX11_hasDate cX11_hasDate 3 (some .boolean), Cond.methodLink RX11 317 yX11_anchorOf, Cond.static yX11_anchorOf, Cond.code yX11_anchorOf cX11_anchorOf 2 (some .int), Cond.methodLink RX11 320 yX11_offsetOf, Cond.static yX11_offsetOf, Cond.code yX11_offsetOf cX11_offsetOf 1 (some .int), Cond.methodLink RL 117 yX12_day, Cond.instanceMethod yX12_day]
def wsL_law_r46 : List Cond := [Cond.selects RX12 yX12_day yX12_day, Cond.code yX12_day cX12_day 4 (some .int), Cond.methodLink RX12 409 yX12_isInMonth, Cond.static yX12_isInMonth, Cond.code yX12_isInMonth cX12_isInMonth 1 (some .boolean), Cond.constantLong RX12 407 (30), Cond.methodLink RX12 412 yX12_dayBy, Cond.instanceMethod yX12_dayBy, Cond.selects RX12 yX12_dayBy yX12_dayBy, Cond.code yX12_dayBy cX12_dayBy 3 (some .int), Cond.methodLink RX12 404 yX12_lengthBy, Cond.instanceMethod yX12_lengthBy, Cond.selects RX12 yX12_lengthBy yX12_lengthBy, Cond.code yX12_lengthBy cX12_lengthBy 2 (some .int), Cond.methodLink RL 118 yX11_date, Cond.instanceMethod yX11_date, Cond.selects RX11 yX11_date yX11_date, Cond.code yX11_date cX11_date 5 (some .int), Cond.methodLink RL 121 yX12_date, Cond.instanceMethod yX12_date, Cond.selects RX12 yX12_date yX12_date, Cond.code yX12_date cX12_date 4 (some .int), Cond.methodLink RL 122 yX11_dates, Cond.instanceMethod yX11_dates]
def wsL_law_r47 : List Cond := [Cond.selects RX11 yX11_dates yX11_dates, Cond.code yX11_dates cX11_dates 7 (some .int), Cond.methodLink RX11 304 yX9_dated, Cond.instanceMethod yX9_dated, Cond.selects RX9 yX9_dated yX9_dated, Cond.code yX9_dated cX9_dated 7 (some .int), Cond.methodLink RL 125 yX12_dates, Cond.instanceMethod yX12_dates, Cond.selects RX12 yX12_dates yX12_dates, Cond.code yX12_dates cX12_dates 6 (some .int), Cond.methodLink RX12 415 yX12_datesWith, Cond.instanceMethod yX12_datesWith, Cond.selects RX12 yX12_datesWith yX12_datesWith, Cond.code yX12_datesWith cX12_datesWith 5 (some .int), Cond.methodLink RL 126 yX11_likely, Cond.instanceMethod yX11_likely, Cond.selects RX11 yX11_likely yX11_likely, Cond.code yX11_likely cX11_likely 9 (some .int), Cond.methodLink RX11 308 yX11_dayOf, Cond.methodLink RL 129 yX12_likely, Cond.instanceMethod yX12_likely, Cond.selects RX12 yX12_likely yX12_likely, Cond.code yX12_likely cX12_likely 8 (some .int), Cond.methodLink RL 130 yX11_moved]
def wsL_law_r48 : List Cond := [Cond.instanceMethod yX11_moved, Cond.selects RX11 yX11_moved yX11_moved, Cond.code yX11_moved cX11_moved 5 (some .int), Cond.methodLink RL 133 yX12_moved, Cond.instanceMethod yX12_moved, Cond.selects RX12 yX12_moved yX12_moved, Cond.code yX12_moved cX12_moved 5 (some .int), Cond.methodLink RL 134 yX11_shifts, Cond.instanceMethod yX11_shifts, Cond.selects RX11 yX11_shifts yX11_shifts, Cond.code yX11_shifts cX11_shifts 2 (some .int), Cond.methodLink RX11 361 yX11_historyNow, Cond.instanceMethod yX11_historyNow, Cond.selects RX11 yX11_historyNow yX11_historyNow, Cond.code yX11_historyNow cX11_historyNow 1 (some (.object "SightedMonths$History")), Cond.methodLink RX11 409 yX4_fill, Cond.instanceMethod yX4_fill, Cond.selects RX4 yX4_fill yX4_fill, Cond.code yX4_fill cX4_fill 4 none, Cond.fieldLink RX4 28 "SightedMonths$Court" "begins" "[I", Cond.methodLink RX4 29 arraycopyName, Cond.native arraycopyName, Cond.static arraycopyName, Cond.initialized "java/lang/System"]
def wsL_law_r49 : List Cond := [Cond.methodLink RX4 22 yX1_judge, Cond.methodLink RX4 35 yX0_newsBehind, Cond.instanceMethod yX0_newsBehind, Cond.selects RX0 yX0_newsBehind yX0_newsBehind, Cond.code yX0_newsBehind cX0_newsBehind 4 (some .int), Cond.methodLink RX0 121 Lib.Math.min.name, Cond.methodLink RX11 365 yX4_changesOf, Cond.instanceMethod yX4_changesOf, Cond.selects RX4 yX4_changesOf yX4_changesOf, Cond.code yX4_changesOf cX4_changesOf 4 (some .int), Cond.methodLink RX4 41 yX4_changesAt, Cond.instanceMethod yX4_changesAt, Cond.selects RX4 yX4_changesAt yX4_changesAt, Cond.code yX4_changesAt cX4_changesAt 3 (some .boolean), Cond.methodLink RL 137 yX12_shifts, Cond.instanceMethod yX12_shifts, Cond.selects RX12 yX12_shifts yX12_shifts, Cond.code yX12_shifts cX12_shifts 2 (some .int), Cond.fieldLink RX12 423 "SightedMonthsModel" "changes" "I", Cond.methodLink RX12 435 yX12_follows, Cond.instanceMethod yX12_follows, Cond.selects RX12 yX12_follows yX12_follows, Cond.code yX12_follows cX12_follows 6 none, Cond.fieldLink RX12 426 "SightedMonthsModel" "latestChange" "I"]
def wsL_law_r50 : List Cond := [Cond.methodLink RX12 429 yX12_dueBy, Cond.instanceMethod yX12_dueBy, Cond.selects RX12 yX12_dueBy yX12_dueBy, Cond.code yX12_dueBy cX12_dueBy 2 (some .int), Cond.methodLink RX12 438 yX12_monthOf, Cond.instanceMethod yX12_monthOf, Cond.selects RX12 yX12_monthOf yX12_monthOf, Cond.code yX12_monthOf cX12_monthOf 2 (some .int), Cond.methodLink RX12 441 yX12_behindOf, Cond.instanceMethod yX12_behindOf, Cond.selects RX12 yX12_behindOf yX12_behindOf, Cond.code yX12_behindOf cX12_behindOf 2 (some .int), Cond.methodLink RX12 432 yX12_nextTime, Cond.instanceMethod yX12_nextTime, Cond.selects RX12 yX12_nextTime yX12_nextTime, Cond.code yX12_nextTime cX12_nextTime 4 (some .int), Cond.methodLink RL 138 yX11_settled, Cond.instanceMethod yX11_settled, Cond.selects RX11 yX11_settled yX11_settled, Cond.code yX11_settled cX11_settled 2 (some .int), Cond.methodLink RX11 368 yX4_lastChangeOf, Cond.instanceMethod yX4_lastChangeOf, Cond.selects RX4 yX4_lastChangeOf yX4_lastChangeOf, Cond.code yX4_lastChangeOf cX4_lastChangeOf 3 (some .int)]
def wsL_law_r51 : List Cond := [Cond.methodLink RL 141 yX12_settled, Cond.instanceMethod yX12_settled, Cond.selects RX12 yX12_settled yX12_settled, Cond.code yX12_settled cX12_settled 2 (some .int), Cond.methodLink RL 142 yX11_due, Cond.instanceMethod yX11_due, Cond.selects RX11 yX11_due yX11_due, Cond.code yX11_due cX11_due 3 (some .int), Cond.methodLink RX11 375 yX11_endByOfficial, Cond.instanceMethod yX11_endByOfficial, Cond.selects RX11 yX11_endByOfficial yX11_endByOfficial, Cond.code yX11_endByOfficial cX11_endByOfficial 4 (some .int), Cond.methodLink RX11 378 yX2_endAnchor, Cond.instanceMethod yX2_endAnchor, Cond.selects RX2 yX2_endAnchor yX2_endAnchor, Cond.code yX2_endAnchor cX2_endAnchor 1 (some .int), Cond.fieldLink RX2 7 "SightedMonths$Deed" "inDays" "Z", Cond.fieldLink RX2 13 "SightedMonths$Deed" "month" "I", Cond.fieldLink RX2 17 "SightedMonths$Deed" "length" "I", Cond.fieldLink RX2 20 "SightedMonths$Deed" "day" "I", Cond.methodLink RX11 381 yX2_endOffset, Cond.instanceMethod yX2_endOffset, Cond.selects RX2 yX2_endOffset yX2_endOffset, Cond.code yX2_endOffset cX2_endOffset 1 (some .int)]
def wsL_law_r52 : List Cond := [Cond.methodLink RL 145 yX12_due, Cond.instanceMethod yX12_due, Cond.selects RX12 yX12_due yX12_due, Cond.code yX12_due cX12_due 3 (some .int), Cond.methodLink RL 146 yX11_dueSpan, Cond.instanceMethod yX11_dueSpan, Cond.selects RX11 yX11_dueSpan yX11_dueSpan, Cond.code yX11_dueSpan cX11_dueSpan 5 (some .int), Cond.methodLink RL 149 yX12_dueSpan, Cond.instanceMethod yX12_dueSpan, Cond.selects RX12 yX12_dueSpan yX12_dueSpan, Cond.code yX12_dueSpan cX12_dueSpan 4 (some .int), Cond.methodLink RX12 447 yX12_dueSpanOf, Cond.instanceMethod yX12_dueSpanOf, Cond.selects RX12 yX12_dueSpanOf yX12_dueSpanOf, Cond.code yX12_dueSpanOf cX12_dueSpanOf 7 (some .int), Cond.methodLink RX12 444 yX12_duesOn, Cond.instanceMethod yX12_duesOn, Cond.selects RX12 yX12_duesOn yX12_duesOn, Cond.code yX12_duesOn cX12_duesOn 4 (some .int), Cond.methodLink RX12 420 yX12_fallsOn, Cond.instanceMethod yX12_fallsOn, Cond.selects RX12 yX12_fallsOn yX12_fallsOn, Cond.code yX12_fallsOn cX12_fallsOn 5 (some .int)]
def wsL_law_r53 : List Cond := [Cond.methodLink RL 150 yX11_dueOn, Cond.instanceMethod yX11_dueOn, Cond.selects RX11 yX11_dueOn yX11_dueOn, Cond.code yX11_dueOn cX11_dueOn 5 (some .int), Cond.methodLink RL 153 yX12_dueOn, Cond.instanceMethod yX12_dueOn, Cond.selects RX12 yX12_dueOn yX12_dueOn, Cond.code yX12_dueOn cX12_dueOn 4 (some .int), Cond.methodLink RL 154 yX11_redated, Cond.instanceMethod yX11_redated, Cond.selects RX11 yX11_redated yX11_redated, Cond.code yX11_redated cX11_redated 2 (some .int), Cond.methodLink RL 157 yX12_redated, Cond.instanceMethod yX12_redated, Cond.selects RX12 yX12_redated yX12_redated, Cond.code yX12_redated cX12_redated 2 (some .int), Cond.methodLink RL 158 yX11_longer, Cond.instanceMethod yX11_longer, Cond.selects RX11 yX11_longer yX11_longer, Cond.code yX11_longer cX11_longer 4 (some .int), Cond.methodLink RX11 384 yX11_leastLead, Cond.instanceMethod yX11_leastLead, Cond.selects RX11 yX11_leastLead yX11_leastLead, Cond.code yX11_leastLead cX11_leastLead 7 (some .int)]
def wsL_law_r54 : List Cond := [Cond.methodLink RX11 326 yX8_wipe, Cond.instanceMethod yX8_wipe, Cond.selects RX8 yX8_wipe yX8_wipe, Cond.code yX8_wipe cX8_wipe 1 none, Cond.methodLink RX8 18 yJ7_fill_53178, Cond.methodLink RX11 334 yX8_charge, Cond.instanceMethod yX8_charge, Cond.selects RX8 yX8_charge yX8_charge, Cond.code yX8_charge cX8_charge 4 none, Cond.methodLink RX11 341 yX8_run, Cond.instanceMethod yX8_run, Cond.selects RX8 yX8_run yX8_run, Cond.code yX8_run cX8_run 4 none, Cond.fieldLink RX8 28 "SightedMonths$Frame" "months" "I", Cond.fieldLink RX8 34 "SightedMonths$Search" "months" "I", Cond.fieldLink RX8 35 "SightedMonths$Frame" "full" "I", Cond.fieldLink RX8 38 "SightedMonths$Search" "full" "I", Cond.fieldLink RX8 39 "SightedMonths$Frame" "lean" "I", Cond.fieldLink RX8 42 "SightedMonths$Search" "lean" "I", Cond.constant RX8 43 (1000000), Cond.methodLink RX8 44 yX3_allows, Cond.methodLink RX8 48 yX8_fillCell, Cond.instanceMethod yX8_fillCell, Cond.selects RX8 yX8_fillCell yX8_fillCell]
def wsL_law_r55 : List Cond := [Cond.code yX8_fillCell cX8_fillCell 5 none, Cond.methodLink RX8 66 Lib.Math.min.name, Cond.methodLink RX8 60 yX8_withFull, Cond.instanceMethod yX8_withFull, Cond.selects RX8 yX8_withFull yX8_withFull, Cond.code yX8_withFull cX8_withFull 4 (some .int), Cond.methodLink RX8 63 yX8_withLean, Cond.instanceMethod yX8_withLean, Cond.selects RX8 yX8_withLean yX8_withLean, Cond.code yX8_withLean cX8_withLean 4 (some .int), Cond.methodLink RX11 345 yX8_least, Cond.instanceMethod yX8_least, Cond.selects RX8 yX8_least yX8_least, Cond.code yX8_least cX8_least 1 (some .int), Cond.methodLink RL 161 yX12_longer, Cond.instanceMethod yX12_longer, Cond.selects RX12 yX12_longer yX12_longer, Cond.code yX12_longer cX12_longer 8 (some .int), Cond.fieldLink RX12 450 "SightedMonthsModel" "canBeLess" "Z", Cond.fieldLink RX12 453 "SightedMonthsModel" "canBeMore" "Z", Cond.methodLink RX12 456 yX12_compares, Cond.instanceMethod yX12_compares, Cond.selects RX12 yX12_compares yX12_compares, Cond.code yX12_compares cX12_compares 5 none]
def wsL_law_r56 : List Cond := [Cond.methodLink RL 162 yX11_own, Cond.instanceMethod yX11_own, Cond.selects RX11 yX11_own yX11_own, Cond.code yX11_own cX11_own 4 (some .int), Cond.methodLink RX11 265 yX11_judgeAlone, Cond.instanceMethod yX11_judgeAlone, Cond.selects RX11 yX11_judgeAlone yX11_judgeAlone, Cond.code yX11_judgeAlone cX11_judgeAlone 3 none, Cond.methodLink RX11 250 yX0_copyFrom, Cond.instanceMethod yX0_copyFrom, Cond.selects RX0 yX0_copyFrom yX0_copyFrom, Cond.code yX0_copyFrom cX0_copyFrom 4 none, Cond.methodLink RX0 64 yX0_wipe, Cond.methodLink RX0 73 yX0_addPlace, Cond.methodLink RX0 92 yX0_addReport, Cond.methodLink RX11 418 yX0_strikeAllBut, Cond.instanceMethod yX0_strikeAllBut, Cond.selects RX0 yX0_strikeAllBut yX0_strikeAllBut, Cond.code yX0_strikeAllBut cX0_strikeAllBut 3 none, Cond.methodLink RL 165 yX12_own, Cond.instanceMethod yX12_own, Cond.selects RX12 yX12_own yX12_own, Cond.code yX12_own cX12_own 4 (some .int), Cond.methodLink RX12 459 yX12_ownBy]
def wsL_law_r57 : List Cond := [Cond.instanceMethod yX12_ownBy, Cond.selects RX12 yX12_ownBy yX12_ownBy, Cond.code yX12_ownBy cX12_ownBy 3 none, Cond.methodLink RL 166 yX11_apart, Cond.instanceMethod yX11_apart, Cond.selects RX11 yX11_apart yX11_apart, Cond.code yX11_apart cX11_apart 4 (some .int), Cond.methodLink RX11 269 arraycopyName, Cond.methodLink RX11 261 yX11_unlikeBegins, Cond.instanceMethod yX11_unlikeBegins, Cond.selects RX11 yX11_unlikeBegins yX11_unlikeBegins, Cond.code yX11_unlikeBegins cX11_unlikeBegins 5 (some .int), Cond.methodLink RL 169 yX12_apart, Cond.instanceMethod yX12_apart, Cond.selects RX12 yX12_apart yX12_apart, Cond.code yX12_apart cX12_apart 4 (some .int), Cond.methodLink RX12 462 yX12_keepsOfficial, Cond.instanceMethod yX12_keepsOfficial, Cond.selects RX12 yX12_keepsOfficial yX12_keepsOfficial, Cond.code yX12_keepsOfficial cX12_keepsOfficial 2 none, Cond.methodLink RX12 465 yX12_unlike, Cond.instanceMethod yX12_unlike, Cond.selects RX12 yX12_unlike yX12_unlike, Cond.code yX12_unlike cX12_unlike 3 (some .int)]
def wsL_law_r58 : List Cond := [Cond.methodLink RL 170 yX11_hang, Cond.instanceMethod yX11_hang, Cond.selects RX11 yX11_hang yX11_hang, Cond.code yX11_hang cX11_hang 3 (some .int), Cond.methodLink RL 173 yX12_hang, Cond.instanceMethod yX12_hang, Cond.selects RX12 yX12_hang yX12_hang, Cond.code yX12_hang cX12_hang 3 (some .int), Cond.methodLink RL 174 yX11_telling, Cond.instanceMethod yX11_telling, Cond.selects RX11 yX11_telling yX11_telling, Cond.code yX11_telling cX11_telling 5 (some .int), Cond.methodLink RX11 311 yX9_mostLeft, Cond.instanceMethod yX9_mostLeft, Cond.selects RX9 yX9_mostLeft yX9_mostLeft, Cond.code yX9_mostLeft cX9_mostLeft 4 (some .int), Cond.methodLink RX9 98 Lib.Math.max.name, Cond.methodLink RL 177 yX12_telling, Cond.instanceMethod yX12_telling, Cond.selects RX12 yX12_telling yX12_telling, Cond.code yX12_telling cX12_telling 7 (some .int), Cond.methodLink RL 178 yX11_trusted, Cond.instanceMethod yX11_trusted, Cond.selects RX11 yX11_trusted yX11_trusted]
def wsL_law_r59 : List Cond := [Cond.code yX11_trusted cX11_trusted 5 (some .int), Cond.methodLink RL 181 yX12_trusted, Cond.instanceMethod yX12_trusted, Cond.selects RX12 yX12_trusted yX12_trusted, Cond.code yX12_trusted cX12_trusted 5 (some .int), Cond.methodLink RL 182 yX11_days, Cond.instanceMethod yX11_days, Cond.selects RX11 yX11_days yX11_days, Cond.code yX11_days cX11_days 5 (some .int), Cond.methodLink RL 185 yX12_days, Cond.instanceMethod yX12_days, Cond.selects RX12 yX12_days yX12_days, Cond.code yX12_days cX12_days 3 (some .int), Cond.methodLink RL 186 yX11_weekday, Cond.instanceMethod yX11_weekday, Cond.selects RX11 yX11_weekday yX11_weekday, Cond.code yX11_weekday cX11_weekday 5 (some .int), Cond.methodLink RX11 323 yX9_onWeekday, Cond.instanceMethod yX9_onWeekday, Cond.selects RX9 yX9_onWeekday yX9_onWeekday, Cond.code yX9_onWeekday cX9_onWeekday 6 (some .int), Cond.methodLink RL 190 yX12_weekday, Cond.instanceMethod yX12_weekday, Cond.selects RX12 yX12_weekday yX12_weekday]
def wsL_law_r60 : List Cond := [Cond.code yX12_weekday cX12_weekday 7 (some .int), Cond.constantLong RX12 418 (6), Cond.methodLink RL 191 yX11_later, Cond.instanceMethod yX11_later, Cond.selects RX11 yX11_later yX11_later, Cond.code yX11_later cX11_later 2 (some .int), Cond.methodLink RX11 247 yX0_knownBits, Cond.instanceMethod yX0_knownBits, Cond.selects RX0 yX0_knownBits yX0_knownBits, Cond.code yX0_knownBits cX0_knownBits 4 (some .int), Cond.methodLink RL 194 yX12_later, Cond.instanceMethod yX12_later, Cond.selects RX12 yX12_later yX12_later, Cond.code yX12_later cX12_later 4 (some .int), Cond.methodLink RL 195 yX11_both, Cond.instanceMethod yX11_both, Cond.selects RX11 yX11_both yX11_both, Cond.code yX11_both cX11_both 3 (some .int), Cond.methodLink RL 198 yX12_both, Cond.instanceMethod yX12_both, Cond.selects RX12 yX12_both yX12_both, Cond.code yX12_both cX12_both 3 (some .int), Cond.methodLink RL 199 yX11_nearest, Cond.instanceMethod yX11_nearest]
def wsL_law_r61 : List Cond := [Cond.selects RX11 yX11_nearest yX11_nearest, Cond.code yX11_nearest cX11_nearest 6 (some .int), Cond.methodLink RX11 329 Lib.Math.abs.name, Cond.static Lib.Math.abs.name, Cond.code Lib.Math.abs.name Lib.Math.abs.code 1 (some .int), Cond.methodLink RX11 348 yX8_fullBits, Cond.instanceMethod yX8_fullBits, Cond.selects RX8 yX8_fullBits yX8_fullBits, Cond.code yX8_fullBits cX8_fullBits 5 (some .int), Cond.methodLink RL 202 yX12_nearest, Cond.instanceMethod yX12_nearest, Cond.selects RX12 yX12_nearest yX12_nearest, Cond.code yX12_nearest cX12_nearest 4 (some .int), Cond.fieldLink RX12 479 "SightedMonthsModel" "worthFull" "I", Cond.methodLink RX12 482 yX12_laysWorth, Cond.instanceMethod yX12_laysWorth, Cond.selects RX12 yX12_laysWorth yX12_laysWorth, Cond.code yX12_laysWorth cX12_laysWorth 8 (some .int), Cond.constant RX12 468 (100000000), Cond.methodLink RX12 472 yX12_costOf, Cond.instanceMethod yX12_costOf, Cond.selects RX12 yX12_costOf yX12_costOf, Cond.code yX12_costOf cX12_costOf 8 (some .int), Cond.methodLink RX12 469 Lib.Math.abs.name]
def wsL_law_r62 : List Cond := [Cond.methodLink RX12 476 yX12_worthBy, Cond.instanceMethod yX12_worthBy, Cond.selects RX12 yX12_worthBy yX12_worthBy, Cond.code yX12_worthBy cX12_worthBy 6 (some .int), Cond.methodLink RL 203 yX11_backed, Cond.instanceMethod yX11_backed, Cond.selects RX11 yX11_backed yX11_backed, Cond.code yX11_backed cX11_backed 5 (some .int), Cond.methodLink RX11 351 yX11_backReport, Cond.instanceMethod yX11_backReport, Cond.selects RX11 yX11_backReport yX11_backReport, Cond.code yX11_backReport cX11_backReport 4 none, Cond.methodLink RX11 421 yX3_rightFor, Cond.methodLink RL 206 yX12_backed, Cond.instanceMethod yX12_backed, Cond.selects RX12 yX12_backed yX12_backed, Cond.code yX12_backed cX12_backed 5 (some .int), Cond.methodLink RL 207 yX11_tell, Cond.instanceMethod yX11_tell, Cond.selects RX11 yX11_tell yX11_tell, Cond.code yX11_tell cX11_tell 5 (some .int), Cond.methodLink RX11 371 yX11_putOut, Cond.instanceMethod yX11_putOut, Cond.selects RX11 yX11_putOut yX11_putOut]
def wsL_law_r63 : List Cond := [Cond.code yX11_putOut cX11_putOut 2 none, Cond.methodLink RL 210 yX12_tell, Cond.instanceMethod yX12_tell, Cond.selects RX12 yX12_tell yX12_tell, Cond.code yX12_tell cX12_tell 3 (some .int), Cond.methodLink RL 211 yX11_octet, Cond.instanceMethod yX11_octet, Cond.selects RX11 yX11_octet yX11_octet, Cond.code yX11_octet cX11_octet 2 (some .int), Cond.methodLink RL 214 yX12_octet, Cond.instanceMethod yX12_octet, Cond.selects RX12 yX12_octet yX12_octet, Cond.code yX12_octet cX12_octet 2 (some .int), Cond.methodLink RL 215 yX11_reports, Cond.instanceMethod yX11_reports, Cond.selects RX11 yX11_reports yX11_reports, Cond.code yX11_reports cX11_reports 7 (some .int), Cond.methodLink RX11 388 yX0_addReport, Cond.methodLink RL 218 yX12_reports, Cond.instanceMethod yX12_reports, Cond.selects RX12 yX12_reports yX12_reports, Cond.code yX12_reports cX12_reports 6 (some .int), Cond.methodLink RL 219 yX11_strikes, Cond.instanceMethod yX11_strikes]
def wsL_law_r64 : List Cond := [Cond.selects RX11 yX11_strikes yX11_strikes, Cond.code yX11_strikes cX11_strikes 2 (some .int), Cond.methodLink RX11 392 yX0_standing, Cond.instanceMethod yX0_standing, Cond.selects RX0 yX0_standing yX0_standing, Cond.code yX0_standing cX0_standing 3 (some .int), Cond.methodLink RX0 107 yX0_standingOf, Cond.methodLink RL 222 yX12_strikes, Cond.instanceMethod yX12_strikes, Cond.selects RX12 yX12_strikes yX12_strikes, Cond.code yX12_strikes cX12_strikes 4 (some .int), Cond.methodLink RL 223 yX11_trusts, Cond.instanceMethod yX11_trusts, Cond.selects RX11 yX11_trusts yX11_trusts, Cond.code yX11_trusts cX11_trusts 4 (some .int), Cond.methodLink RL 226 yX12_trusts, Cond.instanceMethod yX12_trusts, Cond.selects RX12 yX12_trusts yX12_trusts, Cond.code yX12_trusts cX12_trusts 4 (some .int), Cond.constantLong RX12 486 (9), Cond.methodLink RL 227 yX11_moon, Cond.instanceMethod yX11_moon, Cond.selects RX11 yX11_moon yX11_moon, Cond.code yX11_moon cX11_moon 3 (some .int)]
def wsL_law_r65 : List Cond := [Cond.constant RX11 399 (99999), Cond.methodLink RX11 400 yX0_setMoon, Cond.methodLink RL 230 yX12_moon, Cond.instanceMethod yX12_moon, Cond.selects RX12 yX12_moon yX12_moon, Cond.code yX12_moon cX12_moon 3 (some .int), Cond.constantLong RX12 488 (99999), Cond.constantLong RX12 490 (28000), Cond.constantLong RX12 492 (31000), Cond.methodLink RL 231 yX11_runs, Cond.instanceMethod yX11_runs, Cond.selects RX11 yX11_runs yX11_runs, Cond.code yX11_runs cX11_runs 3 (some .int), Cond.methodLink RL 234 yX12_runs, Cond.instanceMethod yX12_runs, Cond.selects RX12 yX12_runs yX12_runs, Cond.code yX12_runs cX12_runs 6 (some .int), Cond.constantLong RX12 494 (5)]
def wsL_law : List Cond := (wsL_law_r1 ++ (wsL_law_r2 ++ (wsL_law_r3 ++ (wsL_law_r4 ++ (wsL_law_r5 ++ (wsL_law_r6 ++ (wsL_law_r7 ++ (wsL_law_r8 ++ (wsL_law_r9 ++ (wsL_law_r10 ++ (wsL_law_r11 ++ (wsL_law_r12 ++ (wsL_law_r13 ++ (wsL_law_r14 ++ (wsL_law_r15 ++ (wsL_law_r16 ++ (wsL_law_r17 ++ (wsL_law_r18 ++ (wsL_law_r19 ++ (wsL_law_r20 ++ (wsL_law_r21 ++ (wsL_law_r22 ++ (wsL_law_r23 ++ (wsL_law_r24 ++ (wsL_law_r25 ++ (wsL_law_r26 ++ (wsL_law_r27 ++ (wsL_law_r28 ++ (wsL_law_r29 ++ (wsL_law_r30 ++ (wsL_law_r31 ++ (wsL_law_r32 ++ (wsL_law_r33 ++ (wsL_law_r34 ++ (wsL_law_r35 ++ (wsL_law_r36 ++ (wsL_law_r37 ++ (wsL_law_r38 ++ (wsL_law_r39 ++ (wsL_law_r40 ++ (wsL_law_r41 ++ (wsL_law_r42 ++ (wsL_law_r43 ++ (wsL_law_r44 ++ (wsL_law_r45 ++ (wsL_law_r46 ++ (wsL_law_r47 ++ (wsL_law_r48 ++ (wsL_law_r49 ++ (wsL_law_r50 ++ (wsL_law_r51 ++ (wsL_law_r52 ++ (wsL_law_r53 ++ (wsL_law_r54 ++ (wsL_law_r55 ++ (wsL_law_r56 ++ (wsL_law_r57 ++ (wsL_law_r58 ++ (wsL_law_r59 ++ (wsL_law_r60 ++ (wsL_law_r61 ++ (wsL_law_r62 ++ (wsL_law_r63 ++ (wsL_law_r64 ++ wsL_law_r65)))))))))))))))))))))))))))))))))))))))))))))))))))))))))))))))) ++ wsX110 ++ wsX120 ++ wsX60 ++ wsX00 ++ wsX30 ++ wsX10 ++ wsX90 ++ wsX80 ++ wsX40 ++ wsX100 ++ wsX50 ++ wsX70 ++ wsX20 ++ ([] : List Cond)
set_option maxRecDepth 20000 in
theorem wsL_law_in : ∀ w ∈ wsL_law, w ∈ lw_tbl := fun w h => (goodIn_p wsL_law [144, 147, 152, 158, 175, 186, 201, 240, 363, 393, 431, 456, 478, 1316, 542, 546, 1494, 550, 1498, 1501, 554, 558, 562, 566, 570, 573, 576, 579, 583, 587, 592, 596, 600, 604, 610, 614, 617, 620, 625, 628, 631, 634, 638, 648, 652, 657, 661, 665, 672, 676, 682, 687, 691, 695, 699, 704, 709, 716, 723, 730, 734, 738, 1505, 1509, 1513, 1517, 1521, 1525, 1531, 1535, 1540, 1544, 1550, 1554, 1558, 1563, 1567, 1574, 1581, 1585, 1593, 1597, 817, 1605, 1610, 742, 1617, 746, 1621, 750, 754, 758, 762, 1625, 1629, 1634, 766, 770, 1638, 1642, 774, 778, 1646, 1650, 782, 786, 790, 794, 1654, 1658, 798, 802, 806, 810, 814, 821, 825, 829, 837, 841, 845, 850, 853, 857, 860, 863, 866, 869, 873, 876, 1662, 1666, 1671, 1675, 1679, 1683, 1687, 1691, 1695, 1699, 1703, 1707, 1711, 1715, 1719, 1722, 880, 883, 1726, 1730, 890, 1735, 894, 898, 1739, 1743, 905, 1751, 960, 964, 968, 971, 975, 979, 983, 986, 989, 996, 1001, 1006, 1010, 1014, 1019, 1759, 1174, 1763, 1767, 1771, 1775, 1023, 1026, 1030, 1779, 1783, 1787, 1791, 1035, 1795, 1178, 1182, 1799, 1803, 1039, 1043, 1807, 1047, 1051, 1811, 1055, 1059, 1815, 1819, 1063, 1067, 1823, 1071, 1827, 1186, 1102, 1105, 1108, 1832, 1835, 1840, 1844, 1190, 1848, 1076, 1080, 1852, 1856, 1084, 1860, 1194, 1873, 1198, 1202, 1206, 1212, 1217, 1221, 1877, 1881, 1885, 1889, 1893, 1897, 1225, 1229, 1901, 1245, 1249, 1253, 1258, 1905, 1263, 1909, 1913, 1917, 1869, 1267, 1921, 1271, 1925, 1275, 1279, 1120, 1128, 1133, 1139, 1145, 1151, 1157, 1933, 1937, 941, 945, 926, 949, 1941, 1945, 953, 937, 1949, 1953, 1957, 933, 1961, 1089, 1093, 1969, 922, 1965, 1283, 1929, 1098, 1112, 1864, 910, 914, 1755, 918, 1747, 1116, 1124, 1161, 1973, 1977, 1981, 1987, 1165, 1169, 1991, 1233, 1237, 1995, 1241, 1999, 1287, 2003, 1292, 1296, 2007, 1301, 2011, 1305, 2016, 1311, 2023] (by decide +kernel) (by decide +kernel) w h).1
theorem inlX0 : ∀ w ∈ wsX00, w ∈ wsL_law := fun _ h => List.mem_append_left _ (List.mem_append_left _ (List.mem_append_left _ (List.mem_append_left _ (List.mem_append_left _ (List.mem_append_left _ (List.mem_append_left _ (List.mem_append_left _ (List.mem_append_left _ (List.mem_append_left _ (List.mem_append_right _ h))))))))))
theorem inX0 : ∀ w ∈ wsX00, w ∈ lw_tbl := fun w h => wsL_law_in w (inlX0 w h)
theorem inlX1 : ∀ w ∈ wsX10, w ∈ wsL_law := fun _ h => List.mem_append_left _ (List.mem_append_left _ (List.mem_append_left _ (List.mem_append_left _ (List.mem_append_left _ (List.mem_append_left _ (List.mem_append_left _ (List.mem_append_left _ (List.mem_append_right _ h))))))))
theorem inX1 : ∀ w ∈ wsX10, w ∈ lw_tbl := fun w h => wsL_law_in w (inlX1 w h)
theorem inlX2 : ∀ w ∈ wsX20, w ∈ wsL_law := fun _ h => List.mem_append_left _ (List.mem_append_right _ h)
theorem inX2 : ∀ w ∈ wsX20, w ∈ lw_tbl := fun w h => wsL_law_in w (inlX2 w h)
theorem inlX3 : ∀ w ∈ wsX30, w ∈ wsL_law := fun _ h => List.mem_append_left _ (List.mem_append_left _ (List.mem_append_left _ (List.mem_append_left _ (List.mem_append_left _ (List.mem_append_left _ (List.mem_append_left _ (List.mem_append_left _ (List.mem_append_left _ (List.mem_append_right _ h)))))))))
theorem inX3 : ∀ w ∈ wsX30, w ∈ lw_tbl := fun w h => wsL_law_in w (inlX3 w h)
theorem inlX4 : ∀ w ∈ wsX40, w ∈ wsL_law := fun _ h => List.mem_append_left _ (List.mem_append_left _ (List.mem_append_left _ (List.mem_append_left _ (List.mem_append_left _ (List.mem_append_right _ h)))))
theorem inX4 : ∀ w ∈ wsX40, w ∈ lw_tbl := fun w h => wsL_law_in w (inlX4 w h)
theorem inlX5 : ∀ w ∈ wsX50, w ∈ wsL_law := fun _ h => List.mem_append_left _ (List.mem_append_left _ (List.mem_append_left _ (List.mem_append_right _ h)))
theorem inX5 : ∀ w ∈ wsX50, w ∈ lw_tbl := fun w h => wsL_law_in w (inlX5 w h)
theorem inlX6 : ∀ w ∈ wsX60, w ∈ wsL_law := fun _ h => List.mem_append_left _ (List.mem_append_left _ (List.mem_append_left _ (List.mem_append_left _ (List.mem_append_left _ (List.mem_append_left _ (List.mem_append_left _ (List.mem_append_left _ (List.mem_append_left _ (List.mem_append_left _ (List.mem_append_left _ (List.mem_append_right _ h)))))))))))
theorem inX6 : ∀ w ∈ wsX60, w ∈ lw_tbl := fun w h => wsL_law_in w (inlX6 w h)
theorem inlX7 : ∀ w ∈ wsX70, w ∈ wsL_law := fun _ h => List.mem_append_left _ (List.mem_append_left _ (List.mem_append_right _ h))
theorem inX7 : ∀ w ∈ wsX70, w ∈ lw_tbl := fun w h => wsL_law_in w (inlX7 w h)
theorem inlX8 : ∀ w ∈ wsX80, w ∈ wsL_law := fun _ h => List.mem_append_left _ (List.mem_append_left _ (List.mem_append_left _ (List.mem_append_left _ (List.mem_append_left _ (List.mem_append_left _ (List.mem_append_right _ h))))))
theorem inX8 : ∀ w ∈ wsX80, w ∈ lw_tbl := fun w h => wsL_law_in w (inlX8 w h)
theorem inlX9 : ∀ w ∈ wsX90, w ∈ wsL_law := fun _ h => List.mem_append_left _ (List.mem_append_left _ (List.mem_append_left _ (List.mem_append_left _ (List.mem_append_left _ (List.mem_append_left _ (List.mem_append_left _ (List.mem_append_right _ h)))))))
theorem inX9 : ∀ w ∈ wsX90, w ∈ lw_tbl := fun w h => wsL_law_in w (inlX9 w h)
theorem inlX10 : ∀ w ∈ wsX100, w ∈ wsL_law := fun _ h => List.mem_append_left _ (List.mem_append_left _ (List.mem_append_left _ (List.mem_append_left _ (List.mem_append_right _ h))))
theorem inX10 : ∀ w ∈ wsX100, w ∈ lw_tbl := fun w h => wsL_law_in w (inlX10 w h)
theorem inlX11 : ∀ w ∈ wsX110, w ∈ wsL_law := fun _ h => List.mem_append_left _ (List.mem_append_left _ (List.mem_append_left _ (List.mem_append_left _ (List.mem_append_left _ (List.mem_append_left _ (List.mem_append_left _ (List.mem_append_left _ (List.mem_append_left _ (List.mem_append_left _ (List.mem_append_left _ (List.mem_append_left _ (List.mem_append_left _ (List.mem_append_right _ h)))))))))))))
theorem inX11 : ∀ w ∈ wsX110, w ∈ lw_tbl := fun w h => wsL_law_in w (inlX11 w h)
theorem inlX12 : ∀ w ∈ wsX120, w ∈ wsL_law := fun _ h => List.mem_append_left _ (List.mem_append_left _ (List.mem_append_left _ (List.mem_append_left _ (List.mem_append_left _ (List.mem_append_left _ (List.mem_append_left _ (List.mem_append_left _ (List.mem_append_left _ (List.mem_append_left _ (List.mem_append_left _ (List.mem_append_left _ (List.mem_append_right _ h))))))))))))
theorem inX12 : ∀ w ∈ wsX120, w ∈ lw_tbl := fun w h => wsL_law_in w (inlX12 w h)
abbrev vwCl : List vw_C := [(RX0, TX0, 13), (RX1, TX1, 7), (RX2, TX2, 4), (RX3, TX3, 5), (RX4, TX4, 3), (RX5, TX5, 2), (RX6, TX6, 7), (RX7, TX7, 6), (RX8, TX8, 5), (RX9, TX9, 6), (RX10, TX10, 2), (RX11, TX11, 16), (RX12, TX12, 57)]
end
section
/-! rows of our own that every walk uses -/
theorem gz_topi {p : Program} {l : Launch} {e : Env} {R : Room} {s : State} {m : MethodId} {args : Array Value} {below : List Frame} {meth : Method} {c : Code} {H : Heap} {locs : List Loc} {cells slots : Nat} {Q : State → Prop} {pc : Nat} {ls : Array Slot} {rest : List Value} {x y : Int32} (h : x = y) (k : W p l e R s m args below meth c H locs cells slots Q (F0 m pc ls (.int y :: rest))) : W p l e R s m args below meth c H locs cells slots Q (F0 m pc ls (.int x :: rest)) := h ▸ k
/-- a call that changes nothing: the world stays -/
theorem gz_keep {D : va_G} {cl : List vw_C} {ws : va_W} {H H1 : Heap} (hP : va_P D cl ws H) (hk : ∀ q : Nat, q < H.size → ¬ (fun _ : Nat => False) q → H1[q]? = H[q]?) : va_P D cl ws H1 := by
  intro k q hq
  have h := hP k q hq
  obtain ⟨a, o | o⟩ := q
  · have h : H[a]? = some (vp_cell o.1 o.2) := h
    show H1[a]? = some (vp_cell o.1 o.2)
    rw [hk a (Array.getElem?_eq_some_iff.mp h).1 (fun f => f)]
    exact h
  · obtain ⟨r, h1, h2⟩ := h
    obtain ⟨cell, hc, -⟩ := id h2
    exact ⟨r, h1, h2.kept (hk a (Array.getElem?_eq_some_iff.mp hc).1 (fun f => f))⟩
theorem gz_nle {x : Int32} (h : ¬ x < 0) : 0 ≤ x := Int32.not_lt.mp h
theorem gz_sw (x : Int32) (n : Nat) (hn : n < 2 ^ 31) {N : Int} (hN : N = (n : Int) := by rfl) : (x.toInt < 0 ∨ N < x.toInt) ∨ ∃ j : Nat, j ≤ n ∧ x = nI j := by
  subst hN
  by_cases h : x < 0
  · exact Or.inl (Or.inl (by simpa [Int32.lt_iff_toInt_lt] using h))
  · obtain ⟨j, hj, rfl⟩ := nI_of h
    by_cases hjn : j ≤ n
    · exact Or.inr ⟨j, hjn, rfl⟩
    · refine Or.inl (Or.inr ?_)
      rw [nI_toInt hj]
      omega
def gz_fault (x : Int32) : Int32 := if x = 0 then 0 else (-1)
def gz_count (x : Int32) : Int32 := if 0 ≤ x.toInt ∧ x.toInt ≤ 10 then 0 else (-1)
theorem gz_count_out {x : Int32} (h : x.toInt < 0 ∨ 10 < x.toInt) : (-1) = gz_count x := by
  unfold gz_count
  rw [if_neg (by omega)]
def gz_in (v lo hi : Int64) : Int32 := if lo ≤ v ∧ v ≤ hi then 1 else 0
theorem gz_in_lt {v lo hi : Int64} (h : lg_cmp v lo < 0) : 0 = gz_in v lo hi := by
  have h1 : v < lo := (lg_cmp_lt v lo).mp h
  unfold gz_in
  rw [if_neg (fun q => absurd (Int64.lt_of_le_of_lt q.1 h1) (Int64.lt_irrefl lo))]
theorem gz_in_gt {v lo hi : Int64} (h : 0 < lg_cmp v hi) : 0 = gz_in v lo hi := by
  have h1 : hi < v := (lg_cmp_gt v hi).mp h
  unfold gz_in
  rw [if_neg (fun q => absurd (Int64.lt_of_le_of_lt q.2 h1) (Int64.lt_irrefl v))]
theorem gz_in_yes {v lo hi : Int64} (h : ¬ lg_cmp v lo < 0) (h2 : ¬ 0 < lg_cmp v hi) : 1 = gz_in v lo hi := by
  have h1 : lo ≤ v := Int64.not_lt.mp (fun q => h ((lg_cmp_lt v lo).mpr q))
  have h3 : v ≤ hi := Int64.not_lt.mp (fun q => h2 ((lg_cmp_gt v hi).mpr q))
  unfold gz_in
  rw [if_pos ⟨h1, h3⟩]
theorem gz_in_none (v : Int64) : gz_in v 0 (-1) = 0 := by
  unfold gz_in
  rw [if_neg (fun q => absurd (Int64.le_trans q.1 q.2) (by decide))]
end
section
/-- what a new object of each kind holds (r: where its parts lie) -/
abbrev fsX (r : Nat → Nat) : List Value := [.ref (r 0), .ref (r 1), .ref (r 2), .ref (r 3), .ref (r 4), .ref (r 5), .ref (r 6), .ref (r 7), .ref (r 8), .ref (r 9), .ref (r 10), .int 0, .int 0, .int (-1), .int 0, .int 0]
abbrev fsR (r : Nat → Nat) : List Value := [.ref (r 11), .ref (r 12), .int 0, .int (-1), .int 0, .int 0, .int 0]
abbrev fsT (r : Nat → Nat) : List Value := [.ref (r 13), .int 0]
abbrev fsA (r : Nat → Nat) : List Value := [.int 0, .int 0, .int 0, .int 0, .int 0, .int 0, .int 0, .int 0, .int 0, .int 0, .ref (r 14), .ref (r 15), .ref (r 16)]
abbrev fsD (r : Nat → Nat) : List Value := [.int 0, .int 0, .int 0, .int 0, .int 0, .int 0, .int 0, .int 0, .int 0, .int 0, .ref (r 17), .ref (r 18), .ref (r 19)]
abbrev fsM (r : Nat → Nat) : List Value := [.int 0, .int 0, .int 0, .int 0, .int 0, .int 0, .int 0, .int 0, .ref (r 0), .ref (r 1), .int 0, .ref (r 2), .ref (r 3), .ref (r 4), .ref (r 5), .ref (r 6), .ref (r 7), .int 0, .ref (r 8), .ref (r 9), .ref (r 10), .ref (r 11), .ref (r 12), .int 0, .int 0, .ref (r 13), .int 0, .int 0, .int (-1), .int 0, .int 0, .int 0, .int 0, .int 0, .ref (r 14), .ref (r 15), .ref (r 16), .int 0, .ref (r 17), .ref (r 18), .ref (r 19), .int 0, .int (-1), .int (-1), .int (-1), .int (-1), .ref (r 20), .int 0, .int 0, .int 0, .int 0, .int 0, .ref (r 21), .ref (r 22), .int 0, .ref (r 23), .int 0]
end
section
theorem dX11_isTold_0 : decode cX11_isTold 0 = .ok (.aload_n 0, 1) := by decide +kernel
theorem dX11_isTold_1 : decode cX11_isTold 1 = .ok (.getfield 19, 3) := by decide +kernel
theorem dX11_isTold_4 : decode cX11_isTold 4 = .ok (.getfield 120, 3) := by decide +kernel
theorem dX11_isTold_7 : decode cX11_isTold 7 = .ok (.ifCond .le 7, 3) := by decide +kernel
theorem dX11_isTold_14 : decode cX11_isTold 14 = .ok (.iconst 0, 1) := by decide +kernel
theorem dX11_isTold_15 : decode cX11_isTold 15 = .ok (.ireturn, 1) := by decide +kernel
def vsX11_isTold : List Cond := .code yX11_isTold cX11_isTold 1 (some .boolean) :: ([.fieldLink RX11 19 "SightedMonths" "almanac" "LSightedMonths$Almanac;", .fieldLink RX11 120 "SightedMonths$Almanac" "months" "I"] ++ wsX110 ++ wsX00)
theorem jnX11_isTold_X11 : ∀ w ∈ wsX110, w ∈ vsX11_isTold := fun _ h => List.mem_cons_of_mem _ (List.mem_append_left _ (List.mem_append_right _ h))
theorem jnX11_isTold_X0 : ∀ w ∈ wsX00, w ∈ vsX11_isTold := fun _ h => List.mem_cons_of_mem _ (List.mem_append_right _ h)
set_option maxHeartbeats 4000000 in
set_option maxRecDepth 100000 in
theorem fX11_isTold (l : Launch) (dC : Nat → ClassId) (dI : Nat → Nat → Nat) (h0 : Nat) (r : Nat → Nat) : Met l yX11_isTold vsX11_isTold ({ frames := 0, cells := 0, slots := 0, locals := 0 }) (va_Pc [.ref h0] (fun U => va_P (dC, dI) vwCl [(h0, .inr (11, fsX r)), ((r 1), .inr (0, fsA r))] U.heap ∧ va_K (dC, dI) vwCl [] U)) (va_Qi (fun (r : Int32) (u : Unit) => r = 0) (fun _ _ => True) (fun _ => False)) 0 0 (fun _ => False) := by
  refine Met.ofW (cc := cX11_isTold) (maxL := 1) (ret := (some .boolean)) (by decide) rfl ?_
  intro p e s m args below meth c s₁ B hml hv
  obtain ⟨rfl, hP, hK⟩ := hv
  have hx := B.exec
  have hb := B.bytes
  have hr := B.returns
  have hts := atoms_spec (ws := vsX11_isTold) B.pre
  have hown : s.vm.findClass RX11 = some m.cls := findClass_of_methodNamed B.named
  have hlocks := B.notSynchronized
  have hS : va_S (fun _ => False) s.heap s.heap [] := va_S.rf
  have hl := lv_entry ([.ref h0]) (n := 1) (Nat.le_of_ble_eq_true rfl)
  rw [lg_entry_eq]
  generalize (lg_sl ([.ref h0]) ++ List.replicate (1 - (lg_sl ([.ref h0])).length) Slot.unset).toArray = ls at hl ⊢
  have hl : lv_has ls 1 [(0, .ref h0)] := hl
  refine lv_aload_n hx hb dX11_isTold_0 rfl (lv_at hl 0 rfl) ?_
  refine va_get (D := (dC, dI)) (ci := 11) (v := .ref (r 1)) (C := RX11) (T := TX11) (N := 16) hx hb hts jnX11_isTold_X11 hown hK hP 0 rfl rfl 1 (by decide) (hts (.fieldLink RX11 19 "SightedMonths" "almanac" "LSightedMonths$Almanac;") (List.mem_of_getElem? (i := 1) (by decide +kernel))) (fun _ h9 => h9) rfl dX11_isTold_1 ?_
  refine va_get (D := (dC, dI)) (ci := 0) (v := .int 0) (C := RX0) (T := TX0) (N := 13) hx hb hts jnX11_isTold_X0 hown hK hP 1 rfl rfl 0 (by decide) (hts (.fieldLink RX11 120 "SightedMonths$Almanac" "months" "I") (List.mem_of_getElem? (i := 2) (by decide +kernel))) (fun _ h9 => h9) rfl dX11_isTold_4 ?_
  refine lv_if_le (tgt := 14) hx hb dX11_isTold_7 (by decide) (fun c_1 => ?_) (fun c_1 => absurd (by decide) c_1)
  refine lv_iconst (v := 0) hx hb dX11_isTold_14 (by decide) ?_
  exact W.zret (v := 0) hx hb hr (by decide) (fun t ht hW => ⟨⟨0, (), rfl, rfl, trivial⟩, hS.F ht⟩) hS.2.2 dX11_isTold_15
theorem dX11_hasTime_0 : decode cX11_hasTime 0 = .ok (.aload_n 0, 1) := by decide +kernel
theorem dX11_hasTime_1 : decode cX11_hasTime 1 = .ok (.invokevirtual 395, 3) := by decide +kernel
theorem dX11_hasTime_4 : decode cX11_hasTime 4 = .ok (.ifCond .eq 18, 3) := by decide +kernel
theorem dX11_hasTime_22 : decode cX11_hasTime 22 = .ok (.iconst 0, 1) := by decide +kernel
theorem dX11_hasTime_23 : decode cX11_hasTime 23 = .ok (.ireturn, 1) := by decide +kernel
def vsX11_hasTime : List Cond := .code yX11_hasTime cX11_hasTime 2 (some .boolean) :: ([.code yX11_isTold cX11_isTold 1 (some .boolean), .fieldLink RX11 19 "SightedMonths" "almanac" "LSightedMonths$Almanac;", .fieldLink RX11 120 "SightedMonths$Almanac" "months" "I", .methodLink RX11 395 yX11_isTold, .instanceMethod yX11_isTold, .selects RX11 yX11_isTold yX11_isTold, .initialized RX11] ++ wsX110 ++ wsX00)
theorem jnX11_hasTime_X11 : ∀ w ∈ wsX110, w ∈ vsX11_hasTime := fun _ h => List.mem_cons_of_mem _ (List.mem_append_left _ (List.mem_append_right _ h))
theorem jnX11_hasTime_X0 : ∀ w ∈ wsX00, w ∈ vsX11_hasTime := fun _ h => List.mem_cons_of_mem _ (List.mem_append_right _ h)
set_option maxRecDepth 20000 in
theorem gX11_hasTime_X11_isTold_395 : GoodIn vsX11_hasTime (wsV RX11 395 RX11 yX11_isTold vsX11_isTold) := goodIn_app (goodIn_of _ (by decide +kernel)) (goodIn_r _ [1, 2, 3, 8, 9, 10, 11, 12, 13, 14, 15, 16, 17, 18, 19, 20, 21, 22, 23, 24, 25, 26, 27, 28, 29, 30, 31, 32, 33, 34, 35, 36] (by decide +kernel) (by decide +kernel))
set_option maxHeartbeats 4000000 in
set_option maxRecDepth 100000 in
theorem fX11_hasTime (l : Launch) (dC : Nat → ClassId) (dI : Nat → Nat → Nat) (h0 : Nat) (r : Nat → Nat) (p0 : Int32) : Met l yX11_hasTime vsX11_hasTime ({ frames := 1, cells := 0, slots := 0, locals := 20 }) (va_Pc [.ref h0, .int p0] (fun U => va_P (dC, dI) vwCl [(h0, .inr (11, fsX r)), ((r 1), .inr (0, fsA r))] U.heap ∧ va_K (dC, dI) vwCl [] U)) (va_Qi (fun (r : Int32) (u : Unit) => r = 0) (fun _ _ => True) (fun _ => False)) 0 0 (fun _ => False) := by
  refine Met.ofW (cc := cX11_hasTime) (maxL := 2) (ret := (some .boolean)) (by decide) rfl ?_
  intro p e s m args below meth c s₁ B hml hv
  obtain ⟨rfl, hP, hK⟩ := hv
  have hx := B.exec
  have hb := B.bytes
  have hr := B.returns
  have hts := atoms_spec (ws := vsX11_hasTime) B.pre
  have hown : s.vm.findClass RX11 = some m.cls := findClass_of_methodNamed B.named
  have hlocks := B.notSynchronized
  have hS : va_S (fun _ => False) s.heap s.heap [] := va_S.rf
  have hl := lv_entry ([.ref h0, .int p0]) (n := 2) (Nat.le_of_ble_eq_true rfl)
  rw [lg_entry_eq]
  generalize (lg_sl ([.ref h0, .int p0]) ++ List.replicate (2 - (lg_sl ([.ref h0, .int p0])).length) Slot.unset).toArray = ls at hl ⊢
  have hl : lv_has ls 2 [(0, .ref h0), (1, .int p0)] := hl
  refine lv_aload_n hx hb dX11_hasTime_0 rfl (lv_at hl 0 rfl) ?_
  have hPc := hP.sub (ws' := [(h0, .inr (11, fsX r)), ((r 1), .inr (0, fsA r))]) [0, 1] rfl
  have hKc := hK.sub (tys' := []) [] rfl
  refine va_calli (va_runV (As := []) (rest := []) ⟨hx, hb, hml, hown, hts⟩ (fX11_isTold l dC dI h0 r) (cwV 0 hts gX11_hasTime_X11_isTold_395 rfl rfl rfl (by decide +kernel) ⟨Nat.le_of_ble_eq_true rfl, Nat.le_of_ble_eq_true rfl⟩) ⟨fun a U g mk q => by obtain ⟨q0, qP, qK⟩ := q; exact ⟨q0, qP, va_K.moved (u := U) (U := U.calling g mk a) (Vm.Alike.refl U.vm) qK⟩, va_recv hKc hPc (ci := 11) (q0 := 0) rfl rfl, fun U hU hW => ⟨rfl, by rw [hU]; exact hPc, va_K.moved hW.alike hKc⟩⟩ rfl rfl hl.1 rfl (lv_room (Nat.le_of_ble_eq_true rfl)) dX11_hasTime_1 ⟨Nat.zero_le _, Nat.zero_le _⟩) hS (fun q _ h => h.elim) (fun q h => h.elim) (fun r_1 u t H1 locs ht hvm hw hB hz1 hk1 hS => ?_)
  have hP := gz_keep hP hk1
  generalize H1 = H at hP hS ⊢
  subst hw
  refine lv_if_eq (tgt := 22) hx hb dX11_hasTime_4 (by decide) (fun c_2 => ?_) (fun c_2 => absurd (by decide) c_2)
  refine lv_iconst (v := 0) hx hb dX11_hasTime_22 (by decide) ?_
  exact W.zret (v := 0) hx hb hr (by decide) (fun t ht hW => ⟨⟨0, (), rfl, rfl, trivial⟩, hS.F ht⟩) hS.2.2 dX11_hasTime_23
theorem dX11_hasMonth_0 : decode cX11_hasMonth 0 = .ok (.aload_n 0, 1) := by decide +kernel
theorem dX11_hasMonth_1 : decode cX11_hasMonth 1 = .ok (.invokevirtual 395, 3) := by decide +kernel
theorem dX11_hasMonth_4 : decode cX11_hasMonth 4 = .ok (.ifCond .eq 17, 3) := by decide +kernel
theorem dX11_hasMonth_21 : decode cX11_hasMonth 21 = .ok (.iconst 0, 1) := by decide +kernel
theorem dX11_hasMonth_22 : decode cX11_hasMonth 22 = .ok (.ireturn, 1) := by decide +kernel
def vsX11_hasMonth : List Cond := .code yX11_hasMonth cX11_hasMonth 4 (some .boolean) :: ([.code yX11_isTold cX11_isTold 1 (some .boolean), .fieldLink RX11 19 "SightedMonths" "almanac" "LSightedMonths$Almanac;", .fieldLink RX11 120 "SightedMonths$Almanac" "months" "I", .methodLink RX11 395 yX11_isTold, .instanceMethod yX11_isTold, .selects RX11 yX11_isTold yX11_isTold, .initialized RX11] ++ wsX110 ++ wsX00)
theorem jnX11_hasMonth_X11 : ∀ w ∈ wsX110, w ∈ vsX11_hasMonth := fun _ h => List.mem_cons_of_mem _ (List.mem_append_left _ (List.mem_append_right _ h))
theorem jnX11_hasMonth_X0 : ∀ w ∈ wsX00, w ∈ vsX11_hasMonth := fun _ h => List.mem_cons_of_mem _ (List.mem_append_right _ h)
set_option maxRecDepth 20000 in
theorem gX11_hasMonth_X11_isTold_395 : GoodIn vsX11_hasMonth (wsV RX11 395 RX11 yX11_isTold vsX11_isTold) := goodIn_app (goodIn_of _ (by decide +kernel)) (goodIn_r _ [1, 2, 3, 8, 9, 10, 11, 12, 13, 14, 15, 16, 17, 18, 19, 20, 21, 22, 23, 24, 25, 26, 27, 28, 29, 30, 31, 32, 33, 34, 35, 36] (by decide +kernel) (by decide +kernel))
set_option maxHeartbeats 4000000 in
set_option maxRecDepth 100000 in
theorem fX11_hasMonth (l : Launch) (dC : Nat → ClassId) (dI : Nat → Nat → Nat) (h0 : Nat) (r : Nat → Nat) (p0 : Int32) (p1 : Int32) (p2 : Int32) : Met l yX11_hasMonth vsX11_hasMonth ({ frames := 1, cells := 0, slots := 0, locals := 20 }) (va_Pc [.ref h0, .int p0, .int p1, .int p2] (fun U => va_P (dC, dI) vwCl [(h0, .inr (11, fsX r)), ((r 1), .inr (0, fsA r))] U.heap ∧ va_K (dC, dI) vwCl [] U)) (va_Qi (fun (r : Int32) (u : Unit) => r = 0) (fun _ _ => True) (fun _ => False)) 0 0 (fun _ => False) := by
  refine Met.ofW (cc := cX11_hasMonth) (maxL := 4) (ret := (some .boolean)) (by decide) rfl ?_
  intro p e s m args below meth c s₁ B hml hv
  obtain ⟨rfl, hP, hK⟩ := hv
  have hx := B.exec
  have hb := B.bytes
  have hr := B.returns
  have hts := atoms_spec (ws := vsX11_hasMonth) B.pre
  have hown : s.vm.findClass RX11 = some m.cls := findClass_of_methodNamed B.named
  have hlocks := B.notSynchronized
  have hS : va_S (fun _ => False) s.heap s.heap [] := va_S.rf
  have hl := lv_entry ([.ref h0, .int p0, .int p1, .int p2]) (n := 4) (Nat.le_of_ble_eq_true rfl)
  rw [lg_entry_eq]
  generalize (lg_sl ([.ref h0, .int p0, .int p1, .int p2]) ++ List.replicate (4 - (lg_sl ([.ref h0, .int p0, .int p1, .int p2])).length) Slot.unset).toArray = ls at hl ⊢
  have hl : lv_has ls 4 [(0, .ref h0), (1, .int p0), (2, .int p1), (3, .int p2)] := hl
  refine lv_aload_n hx hb dX11_hasMonth_0 rfl (lv_at hl 0 rfl) ?_
  have hPc := hP.sub (ws' := [(h0, .inr (11, fsX r)), ((r 1), .inr (0, fsA r))]) [0, 1] rfl
  have hKc := hK.sub (tys' := []) [] rfl
  refine va_calli (va_runV (As := []) (rest := []) ⟨hx, hb, hml, hown, hts⟩ (fX11_isTold l dC dI h0 r) (cwV 0 hts gX11_hasMonth_X11_isTold_395 rfl rfl rfl (by decide +kernel) ⟨Nat.le_of_ble_eq_true rfl, Nat.le_of_ble_eq_true rfl⟩) ⟨fun a U g mk q => by obtain ⟨q0, qP, qK⟩ := q; exact ⟨q0, qP, va_K.moved (u := U) (U := U.calling g mk a) (Vm.Alike.refl U.vm) qK⟩, va_recv hKc hPc (ci := 11) (q0 := 0) rfl rfl, fun U hU hW => ⟨rfl, by rw [hU]; exact hPc, va_K.moved hW.alike hKc⟩⟩ rfl rfl hl.1 rfl (lv_room (Nat.le_of_ble_eq_true rfl)) dX11_hasMonth_1 ⟨Nat.zero_le _, Nat.zero_le _⟩) hS (fun q _ h => h.elim) (fun q h => h.elim) (fun r_1 u t H1 locs ht hvm hw hB hz1 hk1 hS => ?_)
  have hP := gz_keep hP hk1
  generalize H1 = H at hP hS ⊢
  subst hw
  refine lv_if_eq (tgt := 21) hx hb dX11_hasMonth_4 (by decide) (fun c_2 => ?_) (fun c_2 => absurd (by decide) c_2)
  refine lv_iconst (v := 0) hx hb dX11_hasMonth_21 (by decide) ?_
  exact W.zret (v := 0) hx hb hr (by decide) (fun t ht hW => ⟨⟨0, (), rfl, rfl, trivial⟩, hS.F ht⟩) hS.2.2 dX11_hasMonth_22
theorem dX11_hasPlace_0 : decode cX11_hasPlace 0 = .ok (.iload_n 1, 1) := by decide +kernel
theorem dX11_hasPlace_1 : decode cX11_hasPlace 1 = .ok (.ifCond .lt 18, 3) := by decide +kernel
theorem dX11_hasPlace_4 : decode cX11_hasPlace 4 = .ok (.iload_n 1, 1) := by decide +kernel
theorem dX11_hasPlace_5 : decode cX11_hasPlace 5 = .ok (.aload_n 0, 1) := by decide +kernel
theorem dX11_hasPlace_6 : decode cX11_hasPlace 6 = .ok (.getfield 19, 3) := by decide +kernel
theorem dX11_hasPlace_9 : decode cX11_hasPlace 9 = .ok (.getfield 129, 3) := by decide +kernel
theorem dX11_hasPlace_12 : decode cX11_hasPlace 12 = .ok (.if_icmp .ge 7, 3) := by decide +kernel
theorem dX11_hasPlace_19 : decode cX11_hasPlace 19 = .ok (.iconst 0, 1) := by decide +kernel
theorem dX11_hasPlace_20 : decode cX11_hasPlace 20 = .ok (.ireturn, 1) := by decide +kernel
def vsX11_hasPlace : List Cond := .code yX11_hasPlace cX11_hasPlace 2 (some .boolean) :: ([.fieldLink RX11 19 "SightedMonths" "almanac" "LSightedMonths$Almanac;", .fieldLink RX11 129 "SightedMonths$Almanac" "placeCount" "I"] ++ wsX110 ++ wsX00)
theorem jnX11_hasPlace_X11 : ∀ w ∈ wsX110, w ∈ vsX11_hasPlace := fun _ h => List.mem_cons_of_mem _ (List.mem_append_left _ (List.mem_append_right _ h))
theorem jnX11_hasPlace_X0 : ∀ w ∈ wsX00, w ∈ vsX11_hasPlace := fun _ h => List.mem_cons_of_mem _ (List.mem_append_right _ h)
set_option maxHeartbeats 4000000 in
set_option maxRecDepth 100000 in
theorem fX11_hasPlace (l : Launch) (dC : Nat → ClassId) (dI : Nat → Nat → Nat) (h0 : Nat) (r : Nat → Nat) (p0 : Int32) : Met l yX11_hasPlace vsX11_hasPlace ({ frames := 0, cells := 0, slots := 0, locals := 0 }) (va_Pc [.ref h0, .int p0] (fun U => va_P (dC, dI) vwCl [(h0, .inr (11, fsX r)), ((r 1), .inr (0, fsA r))] U.heap ∧ va_K (dC, dI) vwCl [] U)) (va_Qi (fun (r : Int32) (u : Unit) => r = 0) (fun _ _ => True) (fun _ => False)) 0 0 (fun _ => False) := by
  refine Met.ofW (cc := cX11_hasPlace) (maxL := 2) (ret := (some .boolean)) (by decide) rfl ?_
  intro p e s m args below meth c s₁ B hml hv
  obtain ⟨rfl, hP, hK⟩ := hv
  have hx := B.exec
  have hb := B.bytes
  have hr := B.returns
  have hts := atoms_spec (ws := vsX11_hasPlace) B.pre
  have hown : s.vm.findClass RX11 = some m.cls := findClass_of_methodNamed B.named
  have hlocks := B.notSynchronized
  have hS : va_S (fun _ => False) s.heap s.heap [] := va_S.rf
  have hl := lv_entry ([.ref h0, .int p0]) (n := 2) (Nat.le_of_ble_eq_true rfl)
  rw [lg_entry_eq]
  generalize (lg_sl ([.ref h0, .int p0]) ++ List.replicate (2 - (lg_sl ([.ref h0, .int p0])).length) Slot.unset).toArray = ls at hl ⊢
  have hl : lv_has ls 2 [(0, .ref h0), (1, .int p0)] := hl
  refine lv_iload_n hx hb dX11_hasPlace_0 rfl (lv_at hl 1 rfl) ?_
  refine lv_if_lt (tgt := 19) hx hb dX11_hasPlace_1 (by decide) (fun c_1 => ?_) (fun c_1 => ?_)
  · refine lv_iconst (v := 0) hx hb dX11_hasPlace_19 (by decide) ?_
    exact W.zret (v := 0) hx hb hr (by decide) (fun t ht hW => ⟨⟨0, (), rfl, rfl, trivial⟩, hS.F ht⟩) hS.2.2 dX11_hasPlace_20
  · refine lv_iload_n hx hb dX11_hasPlace_4 rfl (lv_at hl 1 rfl) ?_
    refine lv_aload_n hx hb dX11_hasPlace_5 rfl (lv_at hl 0 rfl) ?_
    refine va_get (D := (dC, dI)) (ci := 11) (v := .ref (r 1)) (C := RX11) (T := TX11) (N := 16) hx hb hts jnX11_hasPlace_X11 hown hK hP 0 rfl rfl 1 (by decide) (hts (.fieldLink RX11 19 "SightedMonths" "almanac" "LSightedMonths$Almanac;") (List.mem_of_getElem? (i := 1) (by decide +kernel))) (fun _ h9 => h9) rfl dX11_hasPlace_6 ?_
    refine va_get (D := (dC, dI)) (ci := 0) (v := .int 0) (C := RX0) (T := TX0) (N := 13) hx hb hts jnX11_hasPlace_X0 hown hK hP 1 rfl rfl 7 (by decide) (hts (.fieldLink RX11 129 "SightedMonths$Almanac" "placeCount" "I") (List.mem_of_getElem? (i := 2) (by decide +kernel))) (fun _ h9 => h9) rfl dX11_hasPlace_9 ?_
    refine lv_icmp_ge (tgt := 19) hx hb dX11_hasPlace_12 (by decide) (fun c_2 => ?_) (fun c_2 => absurd (gz_nle c_1) c_2)
    refine lv_iconst (v := 0) hx hb dX11_hasPlace_19 (by decide) ?_
    exact W.zret (v := 0) hx hb hr (by decide) (fun t ht hW => ⟨⟨0, (), rfl, rfl, trivial⟩, hS.F ht⟩) hS.2.2 dX11_hasPlace_20
theorem dX11_hasReport_0 : decode cX11_hasReport 0 = .ok (.iload_n 1, 1) := by decide +kernel
theorem dX11_hasReport_1 : decode cX11_hasReport 1 = .ok (.ifCond .lt 18, 3) := by decide +kernel
theorem dX11_hasReport_4 : decode cX11_hasReport 4 = .ok (.iload_n 1, 1) := by decide +kernel
theorem dX11_hasReport_5 : decode cX11_hasReport 5 = .ok (.aload_n 0, 1) := by decide +kernel
theorem dX11_hasReport_6 : decode cX11_hasReport 6 = .ok (.getfield 19, 3) := by decide +kernel
theorem dX11_hasReport_9 : decode cX11_hasReport 9 = .ok (.getfield 132, 3) := by decide +kernel
theorem dX11_hasReport_12 : decode cX11_hasReport 12 = .ok (.if_icmp .ge 7, 3) := by decide +kernel
theorem dX11_hasReport_19 : decode cX11_hasReport 19 = .ok (.iconst 0, 1) := by decide +kernel
theorem dX11_hasReport_20 : decode cX11_hasReport 20 = .ok (.ireturn, 1) := by decide +kernel
def vsX11_hasReport : List Cond := .code yX11_hasReport cX11_hasReport 2 (some .boolean) :: ([.fieldLink RX11 19 "SightedMonths" "almanac" "LSightedMonths$Almanac;", .fieldLink RX11 132 "SightedMonths$Almanac" "reportCount" "I"] ++ wsX110 ++ wsX00)
theorem jnX11_hasReport_X11 : ∀ w ∈ wsX110, w ∈ vsX11_hasReport := fun _ h => List.mem_cons_of_mem _ (List.mem_append_left _ (List.mem_append_right _ h))
theorem jnX11_hasReport_X0 : ∀ w ∈ wsX00, w ∈ vsX11_hasReport := fun _ h => List.mem_cons_of_mem _ (List.mem_append_right _ h)
set_option maxHeartbeats 4000000 in
set_option maxRecDepth 100000 in
theorem fX11_hasReport (l : Launch) (dC : Nat → ClassId) (dI : Nat → Nat → Nat) (h0 : Nat) (r : Nat → Nat) (p0 : Int32) : Met l yX11_hasReport vsX11_hasReport ({ frames := 0, cells := 0, slots := 0, locals := 0 }) (va_Pc [.ref h0, .int p0] (fun U => va_P (dC, dI) vwCl [(h0, .inr (11, fsX r)), ((r 1), .inr (0, fsA r))] U.heap ∧ va_K (dC, dI) vwCl [] U)) (va_Qi (fun (r : Int32) (u : Unit) => r = 0) (fun _ _ => True) (fun _ => False)) 0 0 (fun _ => False) := by
  refine Met.ofW (cc := cX11_hasReport) (maxL := 2) (ret := (some .boolean)) (by decide) rfl ?_
  intro p e s m args below meth c s₁ B hml hv
  obtain ⟨rfl, hP, hK⟩ := hv
  have hx := B.exec
  have hb := B.bytes
  have hr := B.returns
  have hts := atoms_spec (ws := vsX11_hasReport) B.pre
  have hown : s.vm.findClass RX11 = some m.cls := findClass_of_methodNamed B.named
  have hlocks := B.notSynchronized
  have hS : va_S (fun _ => False) s.heap s.heap [] := va_S.rf
  have hl := lv_entry ([.ref h0, .int p0]) (n := 2) (Nat.le_of_ble_eq_true rfl)
  rw [lg_entry_eq]
  generalize (lg_sl ([.ref h0, .int p0]) ++ List.replicate (2 - (lg_sl ([.ref h0, .int p0])).length) Slot.unset).toArray = ls at hl ⊢
  have hl : lv_has ls 2 [(0, .ref h0), (1, .int p0)] := hl
  refine lv_iload_n hx hb dX11_hasReport_0 rfl (lv_at hl 1 rfl) ?_
  refine lv_if_lt (tgt := 19) hx hb dX11_hasReport_1 (by decide) (fun c_1 => ?_) (fun c_1 => ?_)
  · refine lv_iconst (v := 0) hx hb dX11_hasReport_19 (by decide) ?_
    exact W.zret (v := 0) hx hb hr (by decide) (fun t ht hW => ⟨⟨0, (), rfl, rfl, trivial⟩, hS.F ht⟩) hS.2.2 dX11_hasReport_20
  · refine lv_iload_n hx hb dX11_hasReport_4 rfl (lv_at hl 1 rfl) ?_
    refine lv_aload_n hx hb dX11_hasReport_5 rfl (lv_at hl 0 rfl) ?_
    refine va_get (D := (dC, dI)) (ci := 11) (v := .ref (r 1)) (C := RX11) (T := TX11) (N := 16) hx hb hts jnX11_hasReport_X11 hown hK hP 0 rfl rfl 1 (by decide) (hts (.fieldLink RX11 19 "SightedMonths" "almanac" "LSightedMonths$Almanac;") (List.mem_of_getElem? (i := 1) (by decide +kernel))) (fun _ h9 => h9) rfl dX11_hasReport_6 ?_
    refine va_get (D := (dC, dI)) (ci := 0) (v := .int 0) (C := RX0) (T := TX0) (N := 13) hx hb hts jnX11_hasReport_X0 hown hK hP 1 rfl rfl 8 (by decide) (hts (.fieldLink RX11 132 "SightedMonths$Almanac" "reportCount" "I") (List.mem_of_getElem? (i := 2) (by decide +kernel))) (fun _ h9 => h9) rfl dX11_hasReport_9 ?_
    refine lv_icmp_ge (tgt := 19) hx hb dX11_hasReport_12 (by decide) (fun c_2 => ?_) (fun c_2 => absurd (gz_nle c_1) c_2)
    refine lv_iconst (v := 0) hx hb dX11_hasReport_19 (by decide) ?_
    exact W.zret (v := 0) hx hb hr (by decide) (fun t ht hW => ⟨⟨0, (), rfl, rfl, trivial⟩, hS.F ht⟩) hS.2.2 dX11_hasReport_20
theorem dX11_hasDeed_0 : decode cX11_hasDeed 0 = .ok (.iload_n 1, 1) := by decide +kernel
theorem dX11_hasDeed_1 : decode cX11_hasDeed 1 = .ok (.ifCond .lt 18, 3) := by decide +kernel
theorem dX11_hasDeed_4 : decode cX11_hasDeed 4 = .ok (.iload_n 1, 1) := by decide +kernel
theorem dX11_hasDeed_5 : decode cX11_hasDeed 5 = .ok (.aload_n 0, 1) := by decide +kernel
theorem dX11_hasDeed_6 : decode cX11_hasDeed 6 = .ok (.getfield 19, 3) := by decide +kernel
theorem dX11_hasDeed_9 : decode cX11_hasDeed 9 = .ok (.getfield 135, 3) := by decide +kernel
theorem dX11_hasDeed_12 : decode cX11_hasDeed 12 = .ok (.if_icmp .ge 7, 3) := by decide +kernel
theorem dX11_hasDeed_19 : decode cX11_hasDeed 19 = .ok (.iconst 0, 1) := by decide +kernel
theorem dX11_hasDeed_20 : decode cX11_hasDeed 20 = .ok (.ireturn, 1) := by decide +kernel
def vsX11_hasDeed : List Cond := .code yX11_hasDeed cX11_hasDeed 2 (some .boolean) :: ([.fieldLink RX11 19 "SightedMonths" "almanac" "LSightedMonths$Almanac;", .fieldLink RX11 135 "SightedMonths$Almanac" "deedCount" "I"] ++ wsX110 ++ wsX00)
theorem jnX11_hasDeed_X11 : ∀ w ∈ wsX110, w ∈ vsX11_hasDeed := fun _ h => List.mem_cons_of_mem _ (List.mem_append_left _ (List.mem_append_right _ h))
theorem jnX11_hasDeed_X0 : ∀ w ∈ wsX00, w ∈ vsX11_hasDeed := fun _ h => List.mem_cons_of_mem _ (List.mem_append_right _ h)
set_option maxHeartbeats 4000000 in
set_option maxRecDepth 100000 in
theorem fX11_hasDeed (l : Launch) (dC : Nat → ClassId) (dI : Nat → Nat → Nat) (h0 : Nat) (r : Nat → Nat) (p0 : Int32) : Met l yX11_hasDeed vsX11_hasDeed ({ frames := 0, cells := 0, slots := 0, locals := 0 }) (va_Pc [.ref h0, .int p0] (fun U => va_P (dC, dI) vwCl [(h0, .inr (11, fsX r)), ((r 1), .inr (0, fsA r))] U.heap ∧ va_K (dC, dI) vwCl [] U)) (va_Qi (fun (r : Int32) (u : Unit) => r = 0) (fun _ _ => True) (fun _ => False)) 0 0 (fun _ => False) := by
  refine Met.ofW (cc := cX11_hasDeed) (maxL := 2) (ret := (some .boolean)) (by decide) rfl ?_
  intro p e s m args below meth c s₁ B hml hv
  obtain ⟨rfl, hP, hK⟩ := hv
  have hx := B.exec
  have hb := B.bytes
  have hr := B.returns
  have hts := atoms_spec (ws := vsX11_hasDeed) B.pre
  have hown : s.vm.findClass RX11 = some m.cls := findClass_of_methodNamed B.named
  have hlocks := B.notSynchronized
  have hS : va_S (fun _ => False) s.heap s.heap [] := va_S.rf
  have hl := lv_entry ([.ref h0, .int p0]) (n := 2) (Nat.le_of_ble_eq_true rfl)
  rw [lg_entry_eq]
  generalize (lg_sl ([.ref h0, .int p0]) ++ List.replicate (2 - (lg_sl ([.ref h0, .int p0])).length) Slot.unset).toArray = ls at hl ⊢
  have hl : lv_has ls 2 [(0, .ref h0), (1, .int p0)] := hl
  refine lv_iload_n hx hb dX11_hasDeed_0 rfl (lv_at hl 1 rfl) ?_
  refine lv_if_lt (tgt := 19) hx hb dX11_hasDeed_1 (by decide) (fun c_1 => ?_) (fun c_1 => ?_)
  · refine lv_iconst (v := 0) hx hb dX11_hasDeed_19 (by decide) ?_
    exact W.zret (v := 0) hx hb hr (by decide) (fun t ht hW => ⟨⟨0, (), rfl, rfl, trivial⟩, hS.F ht⟩) hS.2.2 dX11_hasDeed_20
  · refine lv_iload_n hx hb dX11_hasDeed_4 rfl (lv_at hl 1 rfl) ?_
    refine lv_aload_n hx hb dX11_hasDeed_5 rfl (lv_at hl 0 rfl) ?_
    refine va_get (D := (dC, dI)) (ci := 11) (v := .ref (r 1)) (C := RX11) (T := TX11) (N := 16) hx hb hts jnX11_hasDeed_X11 hown hK hP 0 rfl rfl 1 (by decide) (hts (.fieldLink RX11 19 "SightedMonths" "almanac" "LSightedMonths$Almanac;") (List.mem_of_getElem? (i := 1) (by decide +kernel))) (fun _ h9 => h9) rfl dX11_hasDeed_6 ?_
    refine va_get (D := (dC, dI)) (ci := 0) (v := .int 0) (C := RX0) (T := TX0) (N := 13) hx hb hts jnX11_hasDeed_X0 hown hK hP 1 rfl rfl 9 (by decide) (hts (.fieldLink RX11 135 "SightedMonths$Almanac" "deedCount" "I") (List.mem_of_getElem? (i := 2) (by decide +kernel))) (fun _ h9 => h9) rfl dX11_hasDeed_9 ?_
    refine lv_icmp_ge (tgt := 19) hx hb dX11_hasDeed_12 (by decide) (fun c_2 => ?_) (fun c_2 => absurd (gz_nle c_1) c_2)
    refine lv_iconst (v := 0) hx hb dX11_hasDeed_19 (by decide) ?_
    exact W.zret (v := 0) hx hb hr (by decide) (fun t ht hW => ⟨⟨0, (), rfl, rfl, trivial⟩, hS.F ht⟩) hS.2.2 dX11_hasDeed_20
end
