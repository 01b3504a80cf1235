-- ===== PART A: goes FIRST, ahead of the names: the tables' words, and 'selects' of the private methods out of them =====
/-- a private method of a class that the tables say can be made, by its rows of tables_1 -/
def lw_okq (q : MethodName × Nat) : Prop := (q.1.cls ≠ "java/lang/invoke/MethodHandle" ∧ q.1.cls ≠ "java/lang/invoke/VarHandle") ∧ Cond.instantiable q.1.cls q.2 ∈ tables_1 ∧ Cond.privateMethod q.1 ∈ tables_1 ∧ Cond.instanceMethod q.1 ∈ tables_1
theorem lw_p0 : lw_okq (⟨"UnimodularTables$Script", "isWhole", "(I)Z"⟩, 5) := ⟨⟨by decide +kernel, by decide +kernel⟩, List.mem_of_getElem? (i := 244) (by decide +kernel), List.mem_of_getElem? (i := 377) (by decide +kernel), List.mem_of_getElem? (i := 378) (by decide +kernel)⟩
theorem lw_p1 : lw_okq (⟨"UnimodularTables$Script", "begins", "(I)Z"⟩, 5) := ⟨⟨by decide +kernel, by decide +kernel⟩, List.mem_of_getElem? (i := 244) (by decide +kernel), List.mem_of_getElem? (i := 383) (by decide +kernel), List.mem_of_getElem? (i := 384) (by decide +kernel)⟩
theorem lw_p2 : lw_okq (⟨"UnimodularTables$Script", "goesOn", "(II)Z"⟩, 5) := ⟨⟨by decide +kernel, by decide +kernel⟩, List.mem_of_getElem? (i := 244) (by decide +kernel), List.mem_of_getElem? (i := 475) (by decide +kernel), List.mem_of_getElem? (i := 476) (by decide +kernel)⟩
theorem lw_p3 : lw_okq (⟨"UnimodularTables", "tableFromTape", "()I"⟩, 19) := ⟨⟨by decide +kernel, by decide +kernel⟩, List.mem_of_getElem? (i := 26) (by decide +kernel), List.mem_of_getElem? (i := 485) (by decide +kernel), List.mem_of_getElem? (i := 486) (by decide +kernel)⟩
theorem lw_p4 : lw_okq (⟨"UnimodularTables", "forget", "()V"⟩, 19) := ⟨⟨by decide +kernel, by decide +kernel⟩, List.mem_of_getElem? (i := 26) (by decide +kernel), List.mem_of_getElem? (i := 500) (by decide +kernel), List.mem_of_getElem? (i := 501) (by decide +kernel)⟩
theorem lw_p5 : lw_okq (⟨"UnimodularTables", "scriptFromTape", "()I"⟩, 19) := ⟨⟨by decide +kernel, by decide +kernel⟩, List.mem_of_getElem? (i := 26) (by decide +kernel), List.mem_of_getElem? (i := 504) (by decide +kernel), List.mem_of_getElem? (i := 505) (by decide +kernel)⟩
theorem lw_p6 : lw_okq (⟨"UnimodularTables", "attempt", "(IIII)I"⟩, 19) := ⟨⟨by decide +kernel, by decide +kernel⟩, List.mem_of_getElem? (i := 26) (by decide +kernel), List.mem_of_getElem? (i := 516) (by decide +kernel), List.mem_of_getElem? (i := 517) (by decide +kernel)⟩
theorem lw_p7 : lw_okq (⟨"UnimodularTables$Table", "negateRow", "(I)I"⟩, 3) := ⟨⟨by decide +kernel, by decide +kernel⟩, List.mem_of_getElem? (i := 51) (by decide +kernel), List.mem_of_getElem? (i := 528) (by decide +kernel), List.mem_of_getElem? (i := 529) (by decide +kernel)⟩
theorem lw_p8 : lw_okq (⟨"UnimodularTables$Table", "onColumns", "(III)I"⟩, 3) := ⟨⟨by decide +kernel, by decide +kernel⟩, List.mem_of_getElem? (i := 51) (by decide +kernel), List.mem_of_getElem? (i := 537) (by decide +kernel), List.mem_of_getElem? (i := 538) (by decide +kernel)⟩
theorem lw_p9 : lw_okq (⟨"UnimodularTables$Table", "changeRows", "(II)I"⟩, 3) := ⟨⟨by decide +kernel, by decide +kernel⟩, List.mem_of_getElem? (i := 51) (by decide +kernel), List.mem_of_getElem? (i := 545) (by decide +kernel), List.mem_of_getElem? (i := 546) (by decide +kernel)⟩
theorem lw_p10 : lw_okq (⟨"UnimodularTables$Table", "dropRow", "(I)I"⟩, 3) := ⟨⟨by decide +kernel, by decide +kernel⟩, List.mem_of_getElem? (i := 51) (by decide +kernel), List.mem_of_getElem? (i := 549) (by decide +kernel), List.mem_of_getElem? (i := 550) (by decide +kernel)⟩
theorem lw_p11 : lw_okq (⟨"UnimodularTables$Table", "turn", "(II)I"⟩, 3) := ⟨⟨by decide +kernel, by decide +kernel⟩, List.mem_of_getElem? (i := 51) (by decide +kernel), List.mem_of_getElem? (i := 553) (by decide +kernel), List.mem_of_getElem? (i := 554) (by decide +kernel)⟩
theorem lw_p12 : lw_okq (⟨"UnimodularTables$Table", "canTurn", "(II)Z"⟩, 3) := ⟨⟨by decide +kernel, by decide +kernel⟩, List.mem_of_getElem? (i := 51) (by decide +kernel), List.mem_of_getElem? (i := 557) (by decide +kernel), List.mem_of_getElem? (i := 558) (by decide +kernel)⟩
theorem lw_p13 : lw_okq (⟨"UnimodularTables$Table", "set", "(III)I"⟩, 3) := ⟨⟨by decide +kernel, by decide +kernel⟩, List.mem_of_getElem? (i := 51) (by decide +kernel), List.mem_of_getElem? (i := 564) (by decide +kernel), List.mem_of_getElem? (i := 565) (by decide +kernel)⟩
theorem lw_p14 : lw_okq (⟨"UnimodularTables", "settle", "(I)I"⟩, 19) := ⟨⟨by decide +kernel, by decide +kernel⟩, List.mem_of_getElem? (i := 26) (by decide +kernel), List.mem_of_getElem? (i := 568) (by decide +kernel), List.mem_of_getElem? (i := 569) (by decide +kernel)⟩
theorem lw_p15 : lw_okq (⟨"UnimodularTables", "refused", "(I)Z"⟩, 19) := ⟨⟨by decide +kernel, by decide +kernel⟩, List.mem_of_getElem? (i := 26) (by decide +kernel), List.mem_of_getElem? (i := 577) (by decide +kernel), List.mem_of_getElem? (i := 578) (by decide +kernel)⟩
def lw_privs_1 : List (MethodName × Nat) := [(⟨"UnimodularTables$Script", "isWhole", "(I)Z"⟩, 5), (⟨"UnimodularTables$Script", "begins", "(I)Z"⟩, 5), (⟨"UnimodularTables$Script", "goesOn", "(II)Z"⟩, 5), (⟨"UnimodularTables", "tableFromTape", "()I"⟩, 19), (⟨"UnimodularTables", "forget", "()V"⟩, 19), (⟨"UnimodularTables", "scriptFromTape", "()I"⟩, 19), (⟨"UnimodularTables", "attempt", "(IIII)I"⟩, 19), (⟨"UnimodularTables$Table", "negateRow", "(I)I"⟩, 3), (⟨"UnimodularTables$Table", "onColumns", "(III)I"⟩, 3), (⟨"UnimodularTables$Table", "changeRows", "(II)I"⟩, 3), (⟨"UnimodularTables$Table", "dropRow", "(I)I"⟩, 3), (⟨"UnimodularTables$Table", "turn", "(II)I"⟩, 3), (⟨"UnimodularTables$Table", "canTurn", "(II)Z"⟩, 3), (⟨"UnimodularTables$Table", "set", "(III)I"⟩, 3), (⟨"UnimodularTables", "settle", "(I)I"⟩, 19), (⟨"UnimodularTables", "refused", "(I)Z"⟩, 19)]
theorem lw_r1 : ∀ q ∈ lw_privs_1, lw_okq q := List.forall_mem_cons.mpr ⟨lw_p0, List.forall_mem_cons.mpr ⟨lw_p1, List.forall_mem_cons.mpr ⟨lw_p2, List.forall_mem_cons.mpr ⟨lw_p3, List.forall_mem_cons.mpr ⟨lw_p4, List.forall_mem_cons.mpr ⟨lw_p5, List.forall_mem_cons.mpr ⟨lw_p6, List.forall_mem_cons.mpr ⟨lw_p7, List.forall_mem_cons.mpr ⟨lw_p8, List.forall_mem_cons.mpr ⟨lw_p9, List.forall_mem_cons.mpr ⟨lw_p10, List.forall_mem_cons.mpr ⟨lw_p11, List.forall_mem_cons.mpr ⟨lw_p12, List.forall_mem_cons.mpr ⟨lw_p13, List.forall_mem_cons.mpr ⟨lw_p14, List.forall_mem_cons.mpr ⟨lw_p15, fun _ h => absurd h List.not_mem_nil⟩⟩⟩⟩⟩⟩⟩⟩⟩⟩⟩⟩⟩⟩⟩⟩
theorem lw_p16 : lw_okq (⟨"UnimodularTables", "isKept", "(I)Z"⟩, 19) := ⟨⟨by decide +kernel, by decide +kernel⟩, List.mem_of_getElem? (i := 26) (by decide +kernel), List.mem_of_getElem? (i := 596) (by decide +kernel), List.mem_of_getElem? (i := 597) (by decide +kernel)⟩
theorem lw_p17 : lw_okq (⟨"UnimodularTables", "attemptSum", "(III)I"⟩, 19) := ⟨⟨by decide +kernel, by decide +kernel⟩, List.mem_of_getElem? (i := 26) (by decide +kernel), List.mem_of_getElem? (i := 605) (by decide +kernel), List.mem_of_getElem? (i := 606) (by decide +kernel)⟩
theorem lw_p18 : lw_okq (⟨"UnimodularTables", "knownMinors", "()LUnimodularTables$Minors;"⟩, 19) := ⟨⟨by decide +kernel, by decide +kernel⟩, List.mem_of_getElem? (i := 26) (by decide +kernel), List.mem_of_getElem? (i := 646) (by decide +kernel), List.mem_of_getElem? (i := 647) (by decide +kernel)⟩
theorem lw_p19 : lw_okq (⟨"UnimodularTables$Minors", "expanded", "(LUnimodularTables$Table;II)I"⟩, 6) := ⟨⟨by decide +kernel, by decide +kernel⟩, List.mem_of_getElem? (i := 101) (by decide +kernel), List.mem_of_getElem? (i := 655) (by decide +kernel), List.mem_of_getElem? (i := 656) (by decide +kernel)⟩
theorem lw_p20 : lw_okq (⟨"UnimodularTables$Minors", "noteBeyond", "(II)V"⟩, 6) := ⟨⟨by decide +kernel, by decide +kernel⟩, List.mem_of_getElem? (i := 101) (by decide +kernel), List.mem_of_getElem? (i := 668) (by decide +kernel), List.mem_of_getElem? (i := 669) (by decide +kernel)⟩
theorem lw_p21 : lw_okq (⟨"UnimodularTables$Table", "halvesAll", "(II)Z"⟩, 3) := ⟨⟨by decide +kernel, by decide +kernel⟩, List.mem_of_getElem? (i := 51) (by decide +kernel), List.mem_of_getElem? (i := 704) (by decide +kernel), List.mem_of_getElem? (i := 705) (by decide +kernel)⟩
theorem lw_p22 : lw_okq (⟨"UnimodularTables", "hasSide", "(I)Z"⟩, 19) := ⟨⟨by decide +kernel, by decide +kernel⟩, List.mem_of_getElem? (i := 26) (by decide +kernel), List.mem_of_getElem? (i := 717) (by decide +kernel), List.mem_of_getElem? (i := 718) (by decide +kernel)⟩
theorem lw_p23 : lw_okq (⟨"UnimodularTables", "knownTree", "(I)LUnimodularTables$Tree;"⟩, 19) := ⟨⟨by decide +kernel, by decide +kernel⟩, List.mem_of_getElem? (i := 26) (by decide +kernel), List.mem_of_getElem? (i := 721) (by decide +kernel), List.mem_of_getElem? (i := 722) (by decide +kernel)⟩
theorem lw_p24 : lw_okq (⟨"UnimodularTables$Tree", "grow", "(I)Z"⟩, 5) := ⟨⟨by decide +kernel, by decide +kernel⟩, List.mem_of_getElem? (i := 128) (by decide +kernel), List.mem_of_getElem? (i := 731) (by decide +kernel), List.mem_of_getElem? (i := 732) (by decide +kernel)⟩
theorem lw_p25 : lw_okq (⟨"UnimodularTables$Tree", "arcsAt", "(II)I"⟩, 5) := ⟨⟨by decide +kernel, by decide +kernel⟩, List.mem_of_getElem? (i := 128) (by decide +kernel), List.mem_of_getElem? (i := 735) (by decide +kernel), List.mem_of_getElem? (i := 736) (by decide +kernel)⟩
theorem lw_p26 : lw_okq (⟨"UnimodularTables$Tree", "growBy", "(IIII)Z"⟩, 5) := ⟨⟨by decide +kernel, by decide +kernel⟩, List.mem_of_getElem? (i := 128) (by decide +kernel), List.mem_of_getElem? (i := 742) (by decide +kernel), List.mem_of_getElem? (i := 743) (by decide +kernel)⟩
theorem lw_p27 : lw_okq (⟨"UnimodularTables$Tree", "moveEnds", "(III)V"⟩, 5) := ⟨⟨by decide +kernel, by decide +kernel⟩, List.mem_of_getElem? (i := 128) (by decide +kernel), List.mem_of_getElem? (i := 746) (by decide +kernel), List.mem_of_getElem? (i := 747) (by decide +kernel)⟩
theorem lw_p28 : lw_okq (⟨"UnimodularTables$Tree", "areWays", "(I)Z"⟩, 5) := ⟨⟨by decide +kernel, by decide +kernel⟩, List.mem_of_getElem? (i := 128) (by decide +kernel), List.mem_of_getElem? (i := 751) (by decide +kernel), List.mem_of_getElem? (i := 752) (by decide +kernel)⟩
theorem lw_p29 : lw_okq (⟨"UnimodularTables$Tree", "starts", "(II)I"⟩, 5) := ⟨⟨by decide +kernel, by decide +kernel⟩, List.mem_of_getElem? (i := 128) (by decide +kernel), List.mem_of_getElem? (i := 755) (by decide +kernel), List.mem_of_getElem? (i := 756) (by decide +kernel)⟩
theorem lw_p30 : lw_okq (⟨"UnimodularTables$Tree", "leaves", "(II)I"⟩, 5) := ⟨⟨by decide +kernel, by decide +kernel⟩, List.mem_of_getElem? (i := 128) (by decide +kernel), List.mem_of_getElem? (i := 760) (by decide +kernel), List.mem_of_getElem? (i := 761) (by decide +kernel)⟩
theorem lw_p31 : lw_okq (⟨"UnimodularTables$Tree", "reaches", "(II)I"⟩, 5) := ⟨⟨by decide +kernel, by decide +kernel⟩, List.mem_of_getElem? (i := 128) (by decide +kernel), List.mem_of_getElem? (i := 764) (by decide +kernel), List.mem_of_getElem? (i := 765) (by decide +kernel)⟩
def lw_privs_2 : List (MethodName × Nat) := [(⟨"UnimodularTables", "isKept", "(I)Z"⟩, 19), (⟨"UnimodularTables", "attemptSum", "(III)I"⟩, 19), (⟨"UnimodularTables", "knownMinors", "()LUnimodularTables$Minors;"⟩, 19), (⟨"UnimodularTables$Minors", "expanded", "(LUnimodularTables$Table;II)I"⟩, 6), (⟨"UnimodularTables$Minors", "noteBeyond", "(II)V"⟩, 6), (⟨"UnimodularTables$Table", "halvesAll", "(II)Z"⟩, 3), (⟨"UnimodularTables", "hasSide", "(I)Z"⟩, 19), (⟨"UnimodularTables", "knownTree", "(I)LUnimodularTables$Tree;"⟩, 19), (⟨"UnimodularTables$Tree", "grow", "(I)Z"⟩, 5), (⟨"UnimodularTables$Tree", "arcsAt", "(II)I"⟩, 5), (⟨"UnimodularTables$Tree", "growBy", "(IIII)Z"⟩, 5), (⟨"UnimodularTables$Tree", "moveEnds", "(III)V"⟩, 5), (⟨"UnimodularTables$Tree", "areWays", "(I)Z"⟩, 5), (⟨"UnimodularTables$Tree", "starts", "(II)I"⟩, 5), (⟨"UnimodularTables$Tree", "leaves", "(II)I"⟩, 5), (⟨"UnimodularTables$Tree", "reaches", "(II)I"⟩, 5)]
theorem lw_r2 : ∀ q ∈ lw_privs_2, lw_okq q := List.forall_mem_cons.mpr ⟨lw_p16, List.forall_mem_cons.mpr ⟨lw_p17, List.forall_mem_cons.mpr ⟨lw_p18, List.forall_mem_cons.mpr ⟨lw_p19, List.forall_mem_cons.mpr ⟨lw_p20, List.forall_mem_cons.mpr ⟨lw_p21, List.forall_mem_cons.mpr ⟨lw_p22, List.forall_mem_cons.mpr ⟨lw_p23, List.forall_mem_cons.mpr ⟨lw_p24, List.forall_mem_cons.mpr ⟨lw_p25, List.forall_mem_cons.mpr ⟨lw_p26, List.forall_mem_cons.mpr ⟨lw_p27, List.forall_mem_cons.mpr ⟨lw_p28, List.forall_mem_cons.mpr ⟨lw_p29, List.forall_mem_cons.mpr ⟨lw_p30, List.forall_mem_cons.mpr ⟨lw_p31, fun _ h => absurd h List.not_mem_nil⟩⟩⟩⟩⟩⟩⟩⟩⟩⟩⟩⟩⟩⟩⟩⟩
theorem lw_p32 : lw_okq (⟨"UnimodularTables$Tree", "arcFrom", "(II)I"⟩, 5) := ⟨⟨by decide +kernel, by decide +kernel⟩, List.mem_of_getElem? (i := 128) (by decide +kernel), List.mem_of_getElem? (i := 785) (by decide +kernel), List.mem_of_getElem? (i := 786) (by decide +kernel)⟩
theorem lw_p33 : lw_okq (⟨"UnimodularTables", "knownSigns", "()LUnimodularTables$Table;"⟩, 19) := ⟨⟨by decide +kernel, by decide +kernel⟩, List.mem_of_getElem? (i := 26) (by decide +kernel), List.mem_of_getElem? (i := 793) (by decide +kernel), List.mem_of_getElem? (i := 794) (by decide +kernel)⟩
theorem lw_p34 : lw_okq (⟨"UnimodularTables$Signing", "signForest", "(LUnimodularTables$Table;)V"⟩, 8) := ⟨⟨by decide +kernel, by decide +kernel⟩, List.mem_of_getElem? (i := 153) (by decide +kernel), List.mem_of_getElem? (i := 802) (by decide +kernel), List.mem_of_getElem? (i := 803) (by decide +kernel)⟩
theorem lw_p35 : lw_okq (⟨"UnimodularTables$Signing", "unite", "(II)V"⟩, 8) := ⟨⟨by decide +kernel, by decide +kernel⟩, List.mem_of_getElem? (i := 153) (by decide +kernel), List.mem_of_getElem? (i := 808) (by decide +kernel), List.mem_of_getElem? (i := 809) (by decide +kernel)⟩
theorem lw_p36 : lw_okq (⟨"UnimodularTables$Signing", "findNext", "(LUnimodularTables$Table;)Z"⟩, 8) := ⟨⟨by decide +kernel, by decide +kernel⟩, List.mem_of_getElem? (i := 153) (by decide +kernel), List.mem_of_getElem? (i := 812) (by decide +kernel), List.mem_of_getElem? (i := 813) (by decide +kernel)⟩
theorem lw_p37 : lw_okq (⟨"UnimodularTables$Signing", "measureFrom", "(I)V"⟩, 8) := ⟨⟨by decide +kernel, by decide +kernel⟩, List.mem_of_getElem? (i := 153) (by decide +kernel), List.mem_of_getElem? (i := 817) (by decide +kernel), List.mem_of_getElem? (i := 818) (by decide +kernel)⟩
theorem lw_p38 : lw_okq (⟨"UnimodularTables$Signing", "reachRows", "(I)V"⟩, 8) := ⟨⟨by decide +kernel, by decide +kernel⟩, List.mem_of_getElem? (i := 153) (by decide +kernel), List.mem_of_getElem? (i := 821) (by decide +kernel), List.mem_of_getElem? (i := 822) (by decide +kernel)⟩
theorem lw_p39 : lw_okq (⟨"UnimodularTables$Signing", "columnToldAt", "(II)I"⟩, 8) := ⟨⟨by decide +kernel, by decide +kernel⟩, List.mem_of_getElem? (i := 153) (by decide +kernel), List.mem_of_getElem? (i := 825) (by decide +kernel), List.mem_of_getElem? (i := 826) (by decide +kernel)⟩
theorem lw_p40 : lw_okq (⟨"UnimodularTables$Signing", "reachColumns", "(I)V"⟩, 8) := ⟨⟨by decide +kernel, by decide +kernel⟩, List.mem_of_getElem? (i := 153) (by decide +kernel), List.mem_of_getElem? (i := 829) (by decide +kernel), List.mem_of_getElem? (i := 830) (by decide +kernel)⟩
theorem lw_p41 : lw_okq (⟨"UnimodularTables$Signing", "rowToldAt", "(II)I"⟩, 8) := ⟨⟨by decide +kernel, by decide +kernel⟩, List.mem_of_getElem? (i := 153) (by decide +kernel), List.mem_of_getElem? (i := 833) (by decide +kernel), List.mem_of_getElem? (i := 834) (by decide +kernel)⟩
theorem lw_p42 : lw_okq (⟨"UnimodularTables$Signing", "sumOfWay", "(I)I"⟩, 8) := ⟨⟨by decide +kernel, by decide +kernel⟩, List.mem_of_getElem? (i := 153) (by decide +kernel), List.mem_of_getElem? (i := 837) (by decide +kernel), List.mem_of_getElem? (i := 838) (by decide +kernel)⟩
theorem lw_p43 : lw_okq (⟨"UnimodularTables", "isTotal", "(LUnimodularTables$Table;)Z"⟩, 19) := ⟨⟨by decide +kernel, by decide +kernel⟩, List.mem_of_getElem? (i := 26) (by decide +kernel), List.mem_of_getElem? (i := 845) (by decide +kernel), List.mem_of_getElem? (i := 846) (by decide +kernel)⟩
theorem lw_p44 : lw_okq (⟨"UnimodularTables$Table", "columnIs", "(LUnimodularTables$Table;III)Z"⟩, 3) := ⟨⟨by decide +kernel, by decide +kernel⟩, List.mem_of_getElem? (i := 51) (by decide +kernel), List.mem_of_getElem? (i := 858) (by decide +kernel), List.mem_of_getElem? (i := 859) (by decide +kernel)⟩
theorem lw_p45 : lw_okq (⟨"UnimodularTables$Pattern", "write", "(Ljava/lang/String;)V"⟩, 3) := ⟨⟨by decide +kernel, by decide +kernel⟩, List.mem_of_getElem? (i := 216) (by decide +kernel), List.mem_of_getElem? (i := 871) (by decide +kernel), List.mem_of_getElem? (i := 872) (by decide +kernel)⟩
theorem lw_p46 : lw_okq (⟨"UnimodularTables$Pattern", "setOrder", "(I)V"⟩, 3) := ⟨⟨by decide +kernel, by decide +kernel⟩, List.mem_of_getElem? (i := 216) (by decide +kernel), List.mem_of_getElem? (i := 904) (by decide +kernel), List.mem_of_getElem? (i := 905) (by decide +kernel)⟩
theorem lw_p47 : lw_okq (⟨"UnimodularTables$Pattern", "moveColumns", "(LUnimodularTables$Table;)Z"⟩, 3) := ⟨⟨by decide +kernel, by decide +kernel⟩, List.mem_of_getElem? (i := 216) (by decide +kernel), List.mem_of_getElem? (i := 912) (by decide +kernel), List.mem_of_getElem? (i := 913) (by decide +kernel)⟩
def lw_privs_3 : List (MethodName × Nat) := [(⟨"UnimodularTables$Tree", "arcFrom", "(II)I"⟩, 5), (⟨"UnimodularTables", "knownSigns", "()LUnimodularTables$Table;"⟩, 19), (⟨"UnimodularTables$Signing", "signForest", "(LUnimodularTables$Table;)V"⟩, 8), (⟨"UnimodularTables$Signing", "unite", "(II)V"⟩, 8), (⟨"UnimodularTables$Signing", "findNext", "(LUnimodularTables$Table;)Z"⟩, 8), (⟨"UnimodularTables$Signing", "measureFrom", "(I)V"⟩, 8), (⟨"UnimodularTables$Signing", "reachRows", "(I)V"⟩, 8), (⟨"UnimodularTables$Signing", "columnToldAt", "(II)I"⟩, 8), (⟨"UnimodularTables$Signing", "reachColumns", "(I)V"⟩, 8), (⟨"UnimodularTables$Signing", "rowToldAt", "(II)I"⟩, 8), (⟨"UnimodularTables$Signing", "sumOfWay", "(I)I"⟩, 8), (⟨"UnimodularTables", "isTotal", "(LUnimodularTables$Table;)Z"⟩, 19), (⟨"UnimodularTables$Table", "columnIs", "(LUnimodularTables$Table;III)Z"⟩, 3), (⟨"UnimodularTables$Pattern", "write", "(Ljava/lang/String;)V"⟩, 3), (⟨"UnimodularTables$Pattern", "setOrder", "(I)V"⟩, 3), (⟨"UnimodularTables$Pattern", "moveColumns", "(LUnimodularTables$Table;)Z"⟩, 3)]
theorem lw_r3 : ∀ q ∈ lw_privs_3, lw_okq q := List.forall_mem_cons.mpr ⟨lw_p32, List.forall_mem_cons.mpr ⟨lw_p33, List.forall_mem_cons.mpr ⟨lw_p34, List.forall_mem_cons.mpr ⟨lw_p35, List.forall_mem_cons.mpr ⟨lw_p36, List.forall_mem_cons.mpr ⟨lw_p37, List.forall_mem_cons.mpr ⟨lw_p38, List.forall_mem_cons.mpr ⟨lw_p39, List.forall_mem_cons.mpr ⟨lw_p40, List.forall_mem_cons.mpr ⟨lw_p41, List.forall_mem_cons.mpr ⟨lw_p42, List.forall_mem_cons.mpr ⟨lw_p43, List.forall_mem_cons.mpr ⟨lw_p44, List.forall_mem_cons.mpr ⟨lw_p45, List.forall_mem_cons.mpr ⟨lw_p46, List.forall_mem_cons.mpr ⟨lw_p47, fun _ h => absurd h List.not_mem_nil⟩⟩⟩⟩⟩⟩⟩⟩⟩⟩⟩⟩⟩⟩⟩⟩
theorem lw_p48 : lw_okq (⟨"UnimodularTables$Pattern", "isAlike", "(LUnimodularTables$Table;II)Z"⟩, 3) := ⟨⟨by decide +kernel, by decide +kernel⟩, List.mem_of_getElem? (i := 216) (by decide +kernel), List.mem_of_getElem? (i := 916) (by decide +kernel), List.mem_of_getElem? (i := 917) (by decide +kernel)⟩
theorem lw_p49 : lw_okq (⟨"UnimodularTables$Shape", "allJoinedTo", "(I)I"⟩, 7) := ⟨⟨by decide +kernel, by decide +kernel⟩, List.mem_of_getElem? (i := 187) (by decide +kernel), List.mem_of_getElem? (i := 937) (by decide +kernel), List.mem_of_getElem? (i := 938) (by decide +kernel)⟩
theorem lw_p50 : lw_okq (⟨"UnimodularTables$Shape", "columnsMetBy", "(I)I"⟩, 7) := ⟨⟨by decide +kernel, by decide +kernel⟩, List.mem_of_getElem? (i := 187) (by decide +kernel), List.mem_of_getElem? (i := 941) (by decide +kernel), List.mem_of_getElem? (i := 942) (by decide +kernel)⟩
theorem lw_p51 : lw_okq (⟨"UnimodularTables$Shape", "rowsMetBy", "(I)I"⟩, 7) := ⟨⟨by decide +kernel, by decide +kernel⟩, List.mem_of_getElem? (i := 187) (by decide +kernel), List.mem_of_getElem? (i := 945) (by decide +kernel), List.mem_of_getElem? (i := 946) (by decide +kernel)⟩
theorem lw_p52 : lw_okq (⟨"UnimodularTables$Shape", "addPart", "(II)V"⟩, 7) := ⟨⟨by decide +kernel, by decide +kernel⟩, List.mem_of_getElem? (i := 187) (by decide +kernel), List.mem_of_getElem? (i := 949) (by decide +kernel), List.mem_of_getElem? (i := 950) (by decide +kernel)⟩
theorem lw_p53 : lw_okq (⟨"UnimodularTables", "firstMend", "()I"⟩, 19) := ⟨⟨by decide +kernel, by decide +kernel⟩, List.mem_of_getElem? (i := 26) (by decide +kernel), List.mem_of_getElem? (i := 978) (by decide +kernel), List.mem_of_getElem? (i := 979) (by decide +kernel)⟩
theorem lw_p54 : lw_okq (⟨"UnimodularTables$Minors", "cofactor", "(IIII)I"⟩, 6) := ⟨⟨by decide +kernel, by decide +kernel⟩, List.mem_of_getElem? (i := 101) (by decide +kernel), List.mem_of_getElem? (i := 986) (by decide +kernel), List.mem_of_getElem? (i := 987) (by decide +kernel)⟩
theorem lw_p55 : lw_okq (⟨"UnimodularTables$Shape", "areApart", "(I)Z"⟩, 7) := ⟨⟨by decide +kernel, by decide +kernel⟩, List.mem_of_getElem? (i := 187) (by decide +kernel), List.mem_of_getElem? (i := 1007) (by decide +kernel), List.mem_of_getElem? (i := 1008) (by decide +kernel)⟩
theorem lw_p56 : lw_okq (⟨"UnimodularTables$Shape", "roundBy", "(II)I"⟩, 7) := ⟨⟨by decide +kernel, by decide +kernel⟩, List.mem_of_getElem? (i := 187) (by decide +kernel), List.mem_of_getElem? (i := 1027) (by decide +kernel), List.mem_of_getElem? (i := 1028) (by decide +kernel)⟩
theorem lw_p57 : lw_okq (⟨"UnimodularTables", "isScript", "(I)Z"⟩, 19) := ⟨⟨by decide +kernel, by decide +kernel⟩, List.mem_of_getElem? (i := 26) (by decide +kernel), List.mem_of_getElem? (i := 1035) (by decide +kernel), List.mem_of_getElem? (i := 1036) (by decide +kernel)⟩
theorem lw_p58 : lw_okq (⟨"UnimodularTables", "attemptDraw", "()I"⟩, 19) := ⟨⟨by decide +kernel, by decide +kernel⟩, List.mem_of_getElem? (i := 26) (by decide +kernel), List.mem_of_getElem? (i := 1055) (by decide +kernel), List.mem_of_getElem? (i := 1056) (by decide +kernel)⟩
theorem lw_p59 : lw_okq (⟨"java/lang/Throwable", "fillInStackTrace", "(I)Ljava/lang/Throwable;"⟩, 6) := ⟨⟨by decide +kernel, by decide +kernel⟩, List.mem_of_getElem? (i := 1126) (by decide +kernel), List.mem_of_getElem? (i := 1124) (by decide +kernel), List.mem_of_getElem? (i := 1125) (by decide +kernel)⟩
theorem lw_p60 : lw_okq (⟨"UnimodularTablesModel", "brings", "(I)V"⟩, 35) := ⟨⟨by decide +kernel, by decide +kernel⟩, List.mem_of_getElem? (i := 1151) (by decide +kernel), List.mem_of_getElem? (i := 1274) (by decide +kernel), List.mem_of_getElem? (i := 1275) (by decide +kernel)⟩
theorem lw_p61 : lw_okq (⟨"UnimodularTablesModel", "readTable", "()V"⟩, 35) := ⟨⟨by decide +kernel, by decide +kernel⟩, List.mem_of_getElem? (i := 1151) (by decide +kernel), List.mem_of_getElem? (i := 1289) (by decide +kernel), List.mem_of_getElem? (i := 1290) (by decide +kernel)⟩
theorem lw_p62 : lw_okq (⟨"UnimodularTablesModel", "readRow", "()V"⟩, 35) := ⟨⟨by decide +kernel, by decide +kernel⟩, List.mem_of_getElem? (i := 1151) (by decide +kernel), List.mem_of_getElem? (i := 1293) (by decide +kernel), List.mem_of_getElem? (i := 1294) (by decide +kernel)⟩
theorem lw_p63 : lw_okq (⟨"UnimodularTablesModel", "look", "()I"⟩, 35) := ⟨⟨by decide +kernel, by decide +kernel⟩, List.mem_of_getElem? (i := 1151) (by decide +kernel), List.mem_of_getElem? (i := 1298) (by decide +kernel), List.mem_of_getElem? (i := 1299) (by decide +kernel)⟩
def lw_privs_4 : List (MethodName × Nat) := [(⟨"UnimodularTables$Pattern", "isAlike", "(LUnimodularTables$Table;II)Z"⟩, 3), (⟨"UnimodularTables$Shape", "allJoinedTo", "(I)I"⟩, 7), (⟨"UnimodularTables$Shape", "columnsMetBy", "(I)I"⟩, 7), (⟨"UnimodularTables$Shape", "rowsMetBy", "(I)I"⟩, 7), (⟨"UnimodularTables$Shape", "addPart", "(II)V"⟩, 7), (⟨"UnimodularTables", "firstMend", "()I"⟩, 19), (⟨"UnimodularTables$Minors", "cofactor", "(IIII)I"⟩, 6), (⟨"UnimodularTables$Shape", "areApart", "(I)Z"⟩, 7), (⟨"UnimodularTables$Shape", "roundBy", "(II)I"⟩, 7), (⟨"UnimodularTables", "isScript", "(I)Z"⟩, 19), (⟨"UnimodularTables", "attemptDraw", "()I"⟩, 19), (⟨"java/lang/Throwable", "fillInStackTrace", "(I)Ljava/lang/Throwable;"⟩, 6), (⟨"UnimodularTablesModel", "brings", "(I)V"⟩, 35), (⟨"UnimodularTablesModel", "readTable", "()V"⟩, 35), (⟨"UnimodularTablesModel", "readRow", "()V"⟩, 35), (⟨"UnimodularTablesModel", "look", "()I"⟩, 35)]
theorem lw_r4 : ∀ q ∈ lw_privs_4, lw_okq q := List.forall_mem_cons.mpr ⟨lw_p48, List.forall_mem_cons.mpr ⟨lw_p49, List.forall_mem_cons.mpr ⟨lw_p50, List.forall_mem_cons.mpr ⟨lw_p51, List.forall_mem_cons.mpr ⟨lw_p52, List.forall_mem_cons.mpr ⟨lw_p53, List.forall_mem_cons.mpr ⟨lw_p54, List.forall_mem_cons.mpr ⟨lw_p55, List.forall_mem_cons.mpr ⟨lw_p56, List.forall_mem_cons.mpr ⟨lw_p57, List.forall_mem_cons.mpr ⟨lw_p58, List.forall_mem_cons.mpr ⟨lw_p59, List.forall_mem_cons.mpr ⟨lw_p60, List.forall_mem_cons.mpr ⟨lw_p61, List.forall_mem_cons.mpr ⟨lw_p62, List.forall_mem_cons.mpr ⟨lw_p63, fun _ h => absurd h List.not_mem_nil⟩⟩⟩⟩⟩⟩⟩⟩⟩⟩⟩⟩⟩⟩⟩⟩
theorem lw_p64 : lw_okq (⟨"UnimodularTablesModel", "here", "()I"⟩, 35) := ⟨⟨by decide +kernel, by decide +kernel⟩, List.mem_of_getElem? (i := 1151) (by decide +kernel), List.mem_of_getElem? (i := 1302) (by decide +kernel), List.mem_of_getElem? (i := 1303) (by decide +kernel)⟩
theorem lw_p65 : lw_okq (⟨"UnimodularTablesModel", "fails", "()V"⟩, 35) := ⟨⟨by decide +kernel, by decide +kernel⟩, List.mem_of_getElem? (i := 1151) (by decide +kernel), List.mem_of_getElem? (i := 1311) (by decide +kernel), List.mem_of_getElem? (i := 1312) (by decide +kernel)⟩
theorem lw_p66 : lw_okq (⟨"UnimodularTablesModel", "readPlan", "()V"⟩, 35) := ⟨⟨by decide +kernel, by decide +kernel⟩, List.mem_of_getElem? (i := 1151) (by decide +kernel), List.mem_of_getElem? (i := 1315) (by decide +kernel), List.mem_of_getElem? (i := 1316) (by decide +kernel)⟩
theorem lw_p67 : lw_okq (⟨"UnimodularTablesModel", "readStep", "(I)V"⟩, 35) := ⟨⟨by decide +kernel, by decide +kernel⟩, List.mem_of_getElem? (i := 1151) (by decide +kernel), List.mem_of_getElem? (i := 1319) (by decide +kernel), List.mem_of_getElem? (i := 1320) (by decide +kernel)⟩
theorem lw_p68 : lw_okq (⟨"UnimodularTablesModel", "digit", "()I"⟩, 35) := ⟨⟨by decide +kernel, by decide +kernel⟩, List.mem_of_getElem? (i := 1151) (by decide +kernel), List.mem_of_getElem? (i := 1325) (by decide +kernel), List.mem_of_getElem? (i := 1326) (by decide +kernel)⟩
theorem lw_p69 : lw_okq (⟨"UnimodularTablesModel", "isCell", "([III)Z"⟩, 35) := ⟨⟨by decide +kernel, by decide +kernel⟩, List.mem_of_getElem? (i := 1151) (by decide +kernel), List.mem_of_getElem? (i := 1338) (by decide +kernel), List.mem_of_getElem? (i := 1339) (by decide +kernel)⟩
theorem lw_p70 : lw_okq (⟨"UnimodularTablesModel", "refused", "(I)I"⟩, 35) := ⟨⟨by decide +kernel, by decide +kernel⟩, List.mem_of_getElem? (i := 1151) (by decide +kernel), List.mem_of_getElem? (i := 1347) (by decide +kernel), List.mem_of_getElem? (i := 1348) (by decide +kernel)⟩
theorem lw_p71 : lw_okq (⟨"UnimodularTablesModel", "remember", "()V"⟩, 35) := ⟨⟨by decide +kernel, by decide +kernel⟩, List.mem_of_getElem? (i := 1151) (by decide +kernel), List.mem_of_getElem? (i := 1351) (by decide +kernel), List.mem_of_getElem? (i := 1352) (by decide +kernel)⟩
theorem lw_p72 : lw_okq (⟨"UnimodularTablesModel", "stops", "([IIII)I"⟩, 35) := ⟨⟨by decide +kernel, by decide +kernel⟩, List.mem_of_getElem? (i := 1151) (by decide +kernel), List.mem_of_getElem? (i := 1359) (by decide +kernel), List.mem_of_getElem? (i := 1360) (by decide +kernel)⟩
theorem lw_p73 : lw_okq (⟨"UnimodularTablesModel", "canTurn", "([III)Z"⟩, 35) := ⟨⟨by decide +kernel, by decide +kernel⟩, List.mem_of_getElem? (i := 1151) (by decide +kernel), List.mem_of_getElem? (i := 1363) (by decide +kernel), List.mem_of_getElem? (i := 1364) (by decide +kernel)⟩
theorem lw_p74 : lw_okq (⟨"UnimodularTablesModel", "does", "([IIII)V"⟩, 35) := ⟨⟨by decide +kernel, by decide +kernel⟩, List.mem_of_getElem? (i := 1151) (by decide +kernel), List.mem_of_getElem? (i := 1370) (by decide +kernel), List.mem_of_getElem? (i := 1371) (by decide +kernel)⟩
theorem lw_p75 : lw_okq (⟨"UnimodularTablesModel", "isKept", "(I)Z"⟩, 35) := ⟨⟨by decide +kernel, by decide +kernel⟩, List.mem_of_getElem? (i := 1151) (by decide +kernel), List.mem_of_getElem? (i := 1385) (by decide +kernel), List.mem_of_getElem? (i := 1386) (by decide +kernel)⟩
theorem lw_p76 : lw_okq (⟨"UnimodularTablesModel", "keptAt", "(III)I"⟩, 35) := ⟨⟨by decide +kernel, by decide +kernel⟩, List.mem_of_getElem? (i := 1151) (by decide +kernel), List.mem_of_getElem? (i := 1389) (by decide +kernel), List.mem_of_getElem? (i := 1390) (by decide +kernel)⟩
theorem lw_p77 : lw_okq (⟨"UnimodularTablesModel", "isSquare", "([III)Z"⟩, 35) := ⟨⟨by decide +kernel, by decide +kernel⟩, List.mem_of_getElem? (i := 1151) (by decide +kernel), List.mem_of_getElem? (i := 1405) (by decide +kernel), List.mem_of_getElem? (i := 1406) (by decide +kernel)⟩
theorem lw_p78 : lw_okq (⟨"UnimodularTablesModel", "laysDets", "([I)V"⟩, 35) := ⟨⟨by decide +kernel, by decide +kernel⟩, List.mem_of_getElem? (i := 1151) (by decide +kernel), List.mem_of_getElem? (i := 1412) (by decide +kernel), List.mem_of_getElem? (i := 1413) (by decide +kernel)⟩
theorem lw_p79 : lw_okq (⟨"UnimodularTablesModel", "isTotal", "([I)Z"⟩, 35) := ⟨⟨by decide +kernel, by decide +kernel⟩, List.mem_of_getElem? (i := 1151) (by decide +kernel), List.mem_of_getElem? (i := 1433) (by decide +kernel), List.mem_of_getElem? (i := 1434) (by decide +kernel)⟩
def lw_privs_5 : List (MethodName × Nat) := [(⟨"UnimodularTablesModel", "here", "()I"⟩, 35), (⟨"UnimodularTablesModel", "fails", "()V"⟩, 35), (⟨"UnimodularTablesModel", "readPlan", "()V"⟩, 35), (⟨"UnimodularTablesModel", "readStep", "(I)V"⟩, 35), (⟨"UnimodularTablesModel", "digit", "()I"⟩, 35), (⟨"UnimodularTablesModel", "isCell", "([III)Z"⟩, 35), (⟨"UnimodularTablesModel", "refused", "(I)I"⟩, 35), (⟨"UnimodularTablesModel", "remember", "()V"⟩, 35), (⟨"UnimodularTablesModel", "stops", "([IIII)I"⟩, 35), (⟨"UnimodularTablesModel", "canTurn", "([III)Z"⟩, 35), (⟨"UnimodularTablesModel", "does", "([IIII)V"⟩, 35), (⟨"UnimodularTablesModel", "isKept", "(I)Z"⟩, 35), (⟨"UnimodularTablesModel", "keptAt", "(III)I"⟩, 35), (⟨"UnimodularTablesModel", "isSquare", "([III)Z"⟩, 35), (⟨"UnimodularTablesModel", "laysDets", "([I)V"⟩, 35), (⟨"UnimodularTablesModel", "isTotal", "([I)Z"⟩, 35)]
theorem lw_r5 : ∀ q ∈ lw_privs_5, lw_okq q := List.forall_mem_cons.mpr ⟨lw_p64, List.forall_mem_cons.mpr ⟨lw_p65, List.forall_mem_cons.mpr ⟨lw_p66, List.forall_mem_cons.mpr ⟨lw_p67, List.forall_mem_cons.mpr ⟨lw_p68, List.forall_mem_cons.mpr ⟨lw_p69, List.forall_mem_cons.mpr ⟨lw_p70, List.forall_mem_cons.mpr ⟨lw_p71, List.forall_mem_cons.mpr ⟨lw_p72, List.forall_mem_cons.mpr ⟨lw_p73, List.forall_mem_cons.mpr ⟨lw_p74, List.forall_mem_cons.mpr ⟨lw_p75, List.forall_mem_cons.mpr ⟨lw_p76, List.forall_mem_cons.mpr ⟨lw_p77, List.forall_mem_cons.mpr ⟨lw_p78, List.forall_mem_cons.mpr ⟨lw_p79, fun _ h => absurd h List.not_mem_nil⟩⟩⟩⟩⟩⟩⟩⟩⟩⟩⟩⟩⟩⟩⟩⟩
theorem lw_p80 : lw_okq (⟨"UnimodularTablesModel", "halfOf", "(I)I"⟩, 35) := ⟨⟨by decide +kernel, by decide +kernel⟩, List.mem_of_getElem? (i := 1151) (by decide +kernel), List.mem_of_getElem? (i := 1446) (by decide +kernel), List.mem_of_getElem? (i := 1447) (by decide +kernel)⟩
theorem lw_p81 : lw_okq (⟨"UnimodularTablesModel", "isHalf", "(II)Z"⟩, 35) := ⟨⟨by decide +kernel, by decide +kernel⟩, List.mem_of_getElem? (i := 1151) (by decide +kernel), List.mem_of_getElem? (i := 1450) (by decide +kernel), List.mem_of_getElem? (i := 1451) (by decide +kernel)⟩
theorem lw_p82 : lw_okq (⟨"UnimodularTablesModel", "hasTree", "(I)Z"⟩, 35) := ⟨⟨by decide +kernel, by decide +kernel⟩, List.mem_of_getElem? (i := 1151) (by decide +kernel), List.mem_of_getElem? (i := 1462) (by decide +kernel), List.mem_of_getElem? (i := 1463) (by decide +kernel)⟩
theorem lw_p83 : lw_okq (⟨"UnimodularTablesModel", "laysSide", "(I)V"⟩, 35) := ⟨⟨by decide +kernel, by decide +kernel⟩, List.mem_of_getElem? (i := 1151) (by decide +kernel), List.mem_of_getElem? (i := 1466) (by decide +kernel), List.mem_of_getElem? (i := 1467) (by decide +kernel)⟩
theorem lw_p84 : lw_okq (⟨"UnimodularTablesModel", "grows", "([III)Z"⟩, 35) := ⟨⟨by decide +kernel, by decide +kernel⟩, List.mem_of_getElem? (i := 1151) (by decide +kernel), List.mem_of_getElem? (i := 1470) (by decide +kernel), List.mem_of_getElem? (i := 1471) (by decide +kernel)⟩
theorem lw_p85 : lw_okq (⟨"UnimodularTablesModel", "endsAt", "(III)I"⟩, 35) := ⟨⟨by decide +kernel, by decide +kernel⟩, List.mem_of_getElem? (i := 1151) (by decide +kernel), List.mem_of_getElem? (i := 1474) (by decide +kernel), List.mem_of_getElem? (i := 1475) (by decide +kernel)⟩
theorem lw_p86 : lw_okq (⟨"UnimodularTablesModel", "bends", "(IIII)V"⟩, 35) := ⟨⟨by decide +kernel, by decide +kernel⟩, List.mem_of_getElem? (i := 1151) (by decide +kernel), List.mem_of_getElem? (i := 1478) (by decide +kernel), List.mem_of_getElem? (i := 1479) (by decide +kernel)⟩
theorem lw_p87 : lw_okq (⟨"UnimodularTablesModel", "areWays", "([III)Z"⟩, 35) := ⟨⟨by decide +kernel, by decide +kernel⟩, List.mem_of_getElem? (i := 1151) (by decide +kernel), List.mem_of_getElem? (i := 1482) (by decide +kernel), List.mem_of_getElem? (i := 1483) (by decide +kernel)⟩
theorem lw_p88 : lw_okq (⟨"UnimodularTablesModel", "isWay", "([IIII)Z"⟩, 35) := ⟨⟨by decide +kernel, by decide +kernel⟩, List.mem_of_getElem? (i := 1151) (by decide +kernel), List.mem_of_getElem? (i := 1486) (by decide +kernel), List.mem_of_getElem? (i := 1487) (by decide +kernel)⟩
theorem lw_p89 : lw_okq (⟨"UnimodularTablesModel", "headOf", "([IIII)I"⟩, 35) := ⟨⟨by decide +kernel, by decide +kernel⟩, List.mem_of_getElem? (i := 1151) (by decide +kernel), List.mem_of_getElem? (i := 1490) (by decide +kernel), List.mem_of_getElem? (i := 1491) (by decide +kernel)⟩
theorem lw_p90 : lw_okq (⟨"UnimodularTablesModel", "tailOf", "([IIII)I"⟩, 35) := ⟨⟨by decide +kernel, by decide +kernel⟩, List.mem_of_getElem? (i := 1151) (by decide +kernel), List.mem_of_getElem? (i := 1494) (by decide +kernel), List.mem_of_getElem? (i := 1495) (by decide +kernel)⟩
theorem lw_p91 : lw_okq (⟨"UnimodularTablesModel", "laysSigns", "()V"⟩, 35) := ⟨⟨by decide +kernel, by decide +kernel⟩, List.mem_of_getElem? (i := 1151) (by decide +kernel), List.mem_of_getElem? (i := 1510) (by decide +kernel), List.mem_of_getElem? (i := 1511) (by decide +kernel)⟩
theorem lw_p92 : lw_okq (⟨"UnimodularTablesModel", "laysSteps", "(I)V"⟩, 35) := ⟨⟨by decide +kernel, by decide +kernel⟩, List.mem_of_getElem? (i := 1151) (by decide +kernel), List.mem_of_getElem? (i := 1514) (by decide +kernel), List.mem_of_getElem? (i := 1515) (by decide +kernel)⟩
theorem lw_p93 : lw_okq (⟨"UnimodularTablesModel", "areTold", "(II)Z"⟩, 35) := ⟨⟨by decide +kernel, by decide +kernel⟩, List.mem_of_getElem? (i := 1151) (by decide +kernel), List.mem_of_getElem? (i := 1518) (by decide +kernel), List.mem_of_getElem? (i := 1519) (by decide +kernel)⟩
theorem lw_p94 : lw_okq (⟨"UnimodularTablesModel", "isTold", "(II)Z"⟩, 35) := ⟨⟨by decide +kernel, by decide +kernel⟩, List.mem_of_getElem? (i := 1151) (by decide +kernel), List.mem_of_getElem? (i := 1522) (by decide +kernel), List.mem_of_getElem? (i := 1523) (by decide +kernel)⟩
theorem lw_p95 : lw_okq (⟨"UnimodularTablesModel", "signBetween", "(II)I"⟩, 35) := ⟨⟨by decide +kernel, by decide +kernel⟩, List.mem_of_getElem? (i := 1151) (by decide +kernel), List.mem_of_getElem? (i := 1526) (by decide +kernel), List.mem_of_getElem? (i := 1527) (by decide +kernel)⟩
def lw_privs_6 : List (MethodName × Nat) := [(⟨"UnimodularTablesModel", "halfOf", "(I)I"⟩, 35), (⟨"UnimodularTablesModel", "isHalf", "(II)Z"⟩, 35), (⟨"UnimodularTablesModel", "hasTree", "(I)Z"⟩, 35), (⟨"UnimodularTablesModel", "laysSide", "(I)V"⟩, 35), (⟨"UnimodularTablesModel", "grows", "([III)Z"⟩, 35), (⟨"UnimodularTablesModel", "endsAt", "(III)I"⟩, 35), (⟨"UnimodularTablesModel", "bends", "(IIII)V"⟩, 35), (⟨"UnimodularTablesModel", "areWays", "([III)Z"⟩, 35), (⟨"UnimodularTablesModel", "isWay", "([IIII)Z"⟩, 35), (⟨"UnimodularTablesModel", "headOf", "([IIII)I"⟩, 35), (⟨"UnimodularTablesModel", "tailOf", "([IIII)I"⟩, 35), (⟨"UnimodularTablesModel", "laysSigns", "()V"⟩, 35), (⟨"UnimodularTablesModel", "laysSteps", "(I)V"⟩, 35), (⟨"UnimodularTablesModel", "areTold", "(II)Z"⟩, 35), (⟨"UnimodularTablesModel", "isTold", "(II)Z"⟩, 35), (⟨"UnimodularTablesModel", "signBetween", "(II)I"⟩, 35)]
theorem lw_r6 : ∀ q ∈ lw_privs_6, lw_okq q := List.forall_mem_cons.mpr ⟨lw_p80, List.forall_mem_cons.mpr ⟨lw_p81, List.forall_mem_cons.mpr ⟨lw_p82, List.forall_mem_cons.mpr ⟨lw_p83, List.forall_mem_cons.mpr ⟨lw_p84, List.forall_mem_cons.mpr ⟨lw_p85, List.forall_mem_cons.mpr ⟨lw_p86, List.forall_mem_cons.mpr ⟨lw_p87, List.forall_mem_cons.mpr ⟨lw_p88, List.forall_mem_cons.mpr ⟨lw_p89, List.forall_mem_cons.mpr ⟨lw_p90, List.forall_mem_cons.mpr ⟨lw_p91, List.forall_mem_cons.mpr ⟨lw_p92, List.forall_mem_cons.mpr ⟨lw_p93, List.forall_mem_cons.mpr ⟨lw_p94, List.forall_mem_cons.mpr ⟨lw_p95, fun _ h => absurd h List.not_mem_nil⟩⟩⟩⟩⟩⟩⟩⟩⟩⟩⟩⟩⟩⟩⟩⟩
theorem lw_p96 : lw_okq (⟨"UnimodularTablesModel", "isScaled", "([I[I)Z"⟩, 35) := ⟨⟨by decide +kernel, by decide +kernel⟩, List.mem_of_getElem? (i := 1151) (by decide +kernel), List.mem_of_getElem? (i := 1538) (by decide +kernel), List.mem_of_getElem? (i := 1539) (by decide +kernel)⟩
theorem lw_p97 : lw_okq (⟨"UnimodularTablesModel", "doRows", "(II)Z"⟩, 35) := ⟨⟨by decide +kernel, by decide +kernel⟩, List.mem_of_getElem? (i := 1151) (by decide +kernel), List.mem_of_getElem? (i := 1548) (by decide +kernel), List.mem_of_getElem? (i := 1549) (by decide +kernel)⟩
theorem lw_p98 : lw_okq (⟨"UnimodularTablesModel", "doColumns", "(II)Z"⟩, 35) := ⟨⟨by decide +kernel, by decide +kernel⟩, List.mem_of_getElem? (i := 1151) (by decide +kernel), List.mem_of_getElem? (i := 1552) (by decide +kernel), List.mem_of_getElem? (i := 1553) (by decide +kernel)⟩
theorem lw_p99 : lw_okq (⟨"UnimodularTablesModel", "isLaid", "()Z"⟩, 35) := ⟨⟨by decide +kernel, by decide +kernel⟩, List.mem_of_getElem? (i := 1151) (by decide +kernel), List.mem_of_getElem? (i := 1556) (by decide +kernel), List.mem_of_getElem? (i := 1557) (by decide +kernel)⟩
theorem lw_p100 : lw_okq (⟨"UnimodularTablesModel", "laysParts", "()V"⟩, 35) := ⟨⟨by decide +kernel, by decide +kernel⟩, List.mem_of_getElem? (i := 1151) (by decide +kernel), List.mem_of_getElem? (i := 1564) (by decide +kernel), List.mem_of_getElem? (i := 1565) (by decide +kernel)⟩
theorem lw_p101 : lw_okq (⟨"UnimodularTablesModel", "isThere", "(I)Z"⟩, 35) := ⟨⟨by decide +kernel, by decide +kernel⟩, List.mem_of_getElem? (i := 1151) (by decide +kernel), List.mem_of_getElem? (i := 1569) (by decide +kernel), List.mem_of_getElem? (i := 1570) (by decide +kernel)⟩
theorem lw_p102 : lw_okq (⟨"UnimodularTablesModel", "isTotalWith", "(II)Z"⟩, 35) := ⟨⟨by decide +kernel, by decide +kernel⟩, List.mem_of_getElem? (i := 1151) (by decide +kernel), List.mem_of_getElem? (i := 1585) (by decide +kernel), List.mem_of_getElem? (i := 1586) (by decide +kernel)⟩
theorem lw_p103 : lw_okq (⟨"UnimodularTablesModel", "doPack", "(I)Z"⟩, 35) := ⟨⟨by decide +kernel, by decide +kernel⟩, List.mem_of_getElem? (i := 1151) (by decide +kernel), List.mem_of_getElem? (i := 1601) (by decide +kernel), List.mem_of_getElem? (i := 1602) (by decide +kernel)⟩
theorem lw_p104 : lw_okq (⟨"UnimodularTablesModel", "rowsOf", "(I)I"⟩, 35) := ⟨⟨by decide +kernel, by decide +kernel⟩, List.mem_of_getElem? (i := 1151) (by decide +kernel), List.mem_of_getElem? (i := 1605) (by decide +kernel), List.mem_of_getElem? (i := 1606) (by decide +kernel)⟩
theorem lw_p105 : lw_okq (⟨"UnimodularTablesModel", "doCover", "(I)Z"⟩, 35) := ⟨⟨by decide +kernel, by decide +kernel⟩, List.mem_of_getElem? (i := 1151) (by decide +kernel), List.mem_of_getElem? (i := 1609) (by decide +kernel), List.mem_of_getElem? (i := 1610) (by decide +kernel)⟩
theorem lw_p106 : lw_okq (⟨"UnimodularTablesModel", "isPlan", "(I)Z"⟩, 35) := ⟨⟨by decide +kernel, by decide +kernel⟩, List.mem_of_getElem? (i := 1151) (by decide +kernel), List.mem_of_getElem? (i := 1625) (by decide +kernel), List.mem_of_getElem? (i := 1626) (by decide +kernel)⟩
theorem lw_p107 : lw_okq (⟨"UnimodularTablesModel", "canStep", "([II)Z"⟩, 35) := ⟨⟨by decide +kernel, by decide +kernel⟩, List.mem_of_getElem? (i := 1151) (by decide +kernel), List.mem_of_getElem? (i := 1633) (by decide +kernel), List.mem_of_getElem? (i := 1634) (by decide +kernel)⟩
theorem lw_p108 : lw_okq (⟨"UnimodularTablesModel", "doesStep", "([II)V"⟩, 35) := ⟨⟨by decide +kernel, by decide +kernel⟩, List.mem_of_getElem? (i := 1151) (by decide +kernel), List.mem_of_getElem? (i := 1637) (by decide +kernel), List.mem_of_getElem? (i := 1638) (by decide +kernel)⟩
theorem lw_p109 : lw_okq (⟨"UnimodularTablesModel", "draw", "(I)I"⟩, 35) := ⟨⟨by decide +kernel, by decide +kernel⟩, List.mem_of_getElem? (i := 1151) (by decide +kernel), List.mem_of_getElem? (i := 1650) (by decide +kernel), List.mem_of_getElem? (i := 1651) (by decide +kernel)⟩
def lw_privs_7 : List (MethodName × Nat) := [(⟨"UnimodularTablesModel", "isScaled", "([I[I)Z"⟩, 35), (⟨"UnimodularTablesModel", "doRows", "(II)Z"⟩, 35), (⟨"UnimodularTablesModel", "doColumns", "(II)Z"⟩, 35), (⟨"UnimodularTablesModel", "isLaid", "()Z"⟩, 35), (⟨"UnimodularTablesModel", "laysParts", "()V"⟩, 35), (⟨"UnimodularTablesModel", "isThere", "(I)Z"⟩, 35), (⟨"UnimodularTablesModel", "isTotalWith", "(II)Z"⟩, 35), (⟨"UnimodularTablesModel", "doPack", "(I)Z"⟩, 35), (⟨"UnimodularTablesModel", "rowsOf", "(I)I"⟩, 35), (⟨"UnimodularTablesModel", "doCover", "(I)Z"⟩, 35), (⟨"UnimodularTablesModel", "isPlan", "(I)Z"⟩, 35), (⟨"UnimodularTablesModel", "canStep", "([II)Z"⟩, 35), (⟨"UnimodularTablesModel", "doesStep", "([II)V"⟩, 35), (⟨"UnimodularTablesModel", "draw", "(I)I"⟩, 35)]
theorem lw_r7 : ∀ q ∈ lw_privs_7, lw_okq q := List.forall_mem_cons.mpr ⟨lw_p96, List.forall_mem_cons.mpr ⟨lw_p97, List.forall_mem_cons.mpr ⟨lw_p98, List.forall_mem_cons.mpr ⟨lw_p99, List.forall_mem_cons.mpr ⟨lw_p100, List.forall_mem_cons.mpr ⟨lw_p101, List.forall_mem_cons.mpr ⟨lw_p102, List.forall_mem_cons.mpr ⟨lw_p103, List.forall_mem_cons.mpr ⟨lw_p104, List.forall_mem_cons.mpr ⟨lw_p105, List.forall_mem_cons.mpr ⟨lw_p106, List.forall_mem_cons.mpr ⟨lw_p107, List.forall_mem_cons.mpr ⟨lw_p108, List.forall_mem_cons.mpr ⟨lw_p109, fun _ h => absurd h List.not_mem_nil⟩⟩⟩⟩⟩⟩⟩⟩⟩⟩⟩⟩⟩⟩
def lw_privs : List (MethodName × Nat) := lw_privs_1 ++ (lw_privs_2 ++ (lw_privs_3 ++ (lw_privs_4 ++ (lw_privs_5 ++ (lw_privs_6 ++ (lw_privs_7))))))
def lw_tbl : List Cond := k2_sels lw_privs ++ tables_1
theorem lw_privs_ok : ∀ q ∈ lw_privs, lw_okq q := by
  show ∀ q ∈ lw_privs_1 ++ (lw_privs_2 ++ (lw_privs_3 ++ (lw_privs_4 ++ (lw_privs_5 ++ (lw_privs_6 ++ (lw_privs_7)))))), lw_okq q
  exact List.forall_mem_append.mpr ⟨lw_r1, List.forall_mem_append.mpr ⟨lw_r2, List.forall_mem_append.mpr ⟨lw_r3, List.forall_mem_append.mpr ⟨lw_r4, List.forall_mem_append.mpr ⟨lw_r5, List.forall_mem_append.mpr ⟨lw_r6, lw_r7⟩⟩⟩⟩⟩⟩
-- ===== end of PART A; then your names; then what follows =====
def RX0 : String := "UnimodularTables$Dice"
def TX0 : u_T := fun k => match k with
  | _ => ("UnimodularTables$Dice", "x", "J", false)
def tyX0 : Nat → FieldType := fun k => match k with
  | _ => .long
abbrev wsX00 : List Cond := u_ws RX0 TX0 1
theorem nmX0 : ∀ a, a < 1 → ∀ b, b < 1 → a ≠ b → (TX0 a).2.1 ≠ (TX0 b).2.1 := by decide +kernel
theorem tyX0_ok : ∀ k, k < 1 → parseFieldDescriptor (TX0 k).2.2.1 = some (tyX0 k) := by decide +kernel
abbrev cX0_init : ByteArray := prog_2_method_1_code
def yX0_init : MethodName := ⟨RX0, "<init>", "()V"⟩
abbrev cX0_draw : ByteArray := prog_2_method_2_code
def yX0_draw : MethodName := ⟨RX0, "draw", "(I)I"⟩
def RX1 : String := "UnimodularTables$Minors"
def TX1 : u_T := fun k => match k with
  | 0 => ("UnimodularTables$Minors", "dets", "[I", true)
  | 1 => ("UnimodularTables$Minors", "rowSets", "I", false)
  | 2 => ("UnimodularTables$Minors", "columnSets", "I", false)
  | 3 => ("UnimodularTables$Minors", "beyondRows", "I", false)
  | 4 => ("UnimodularTables$Minors", "beyondColumns", "I", false)
  | _ => ("UnimodularTables$Minors", "known", "Z", false)
def tyX1 : Nat → FieldType := fun k => match k with
  | 0 => .array .int
  | 1 => .int
  | 2 => .int
  | 3 => .int
  | 4 => .int
  | _ => .boolean
abbrev wsX10 : List Cond := u_ws RX1 TX1 6
theorem nmX1 : ∀ a, a < 6 → ∀ b, b < 6 → a ≠ b → (TX1 a).2.1 ≠ (TX1 b).2.1 := by decide +kernel
theorem tyX1_ok : ∀ k, k < 6 → parseFieldDescriptor (TX1 k).2.2.1 = some (tyX1 k) := by decide +kernel
abbrev cX1_init : ByteArray := prog_3_method_1_code
def yX1_init : MethodName := ⟨RX1, "<init>", "()V"⟩
abbrev cX1_reckon : ByteArray := prog_3_method_2_code
def yX1_reckon : MethodName := ⟨RX1, "reckon", "(LUnimodularTables$Table;)V"⟩
abbrev cX1_expanded : ByteArray := prog_3_method_3_code
def yX1_expanded : MethodName := ⟨RX1, "expanded", "(LUnimodularTables$Table;II)I"⟩
abbrev cX1_noteBeyond : ByteArray := prog_3_method_4_code
def yX1_noteBeyond : MethodName := ⟨RX1, "noteBeyond", "(II)V"⟩
abbrev cX1_allWithin : ByteArray := prog_3_method_5_code
def yX1_allWithin : MethodName := ⟨RX1, "allWithin", "()Z"⟩
abbrev cX1_of : ByteArray := prog_3_method_6_code
def yX1_of : MethodName := ⟨RX1, "of", "(II)I"⟩
abbrev cX1_allWithinIf : ByteArray := prog_3_method_7_code
def yX1_allWithinIf : MethodName := ⟨RX1, "allWithinIf", "(LUnimodularTables$Table;III)Z"⟩
abbrev cX1_cofactor : ByteArray := prog_3_method_8_code
def yX1_cofactor : MethodName := ⟨RX1, "cofactor", "(IIII)I"⟩
abbrev cX1_howMany : ByteArray := prog_3_method_9_code
def yX1_howMany : MethodName := ⟨RX1, "howMany", "(II)I"⟩
abbrev cX1_sortOf : ByteArray := prog_3_method_10_code
def yX1_sortOf : MethodName := ⟨RX1, "sortOf", "(I)I"⟩
abbrev cX1_howManyNotNought : ByteArray := prog_3_method_11_code
def yX1_howManyNotNought : MethodName := ⟨RX1, "howManyNotNought", "()I"⟩
abbrev cX1_largestNotNought : ByteArray := prog_3_method_12_code
def yX1_largestNotNought : MethodName := ⟨RX1, "largestNotNought", "(I)I"⟩
def RX2 : String := "UnimodularTables$Past"
def TX2 : u_T := fun k => match k with
  | 0 => ("UnimodularTables$Past", "tables", "[LUnimodularTables$Table;", true)
  | 1 => ("UnimodularTables$Past", "oldest", "I", false)
  | _ => ("UnimodularTables$Past", "size", "I", false)
def tyX2 : Nat → FieldType := fun k => match k with
  | 0 => .array (.object "UnimodularTables$Table")
  | 1 => .int
  | _ => .int
abbrev wsX20 : List Cond := u_ws RX2 TX2 3
theorem nmX2 : ∀ a, a < 3 → ∀ b, b < 3 → a ≠ b → (TX2 a).2.1 ≠ (TX2 b).2.1 := by decide +kernel
theorem tyX2_ok : ∀ k, k < 3 → parseFieldDescriptor (TX2 k).2.2.1 = some (tyX2 k) := by decide +kernel
abbrev cX2_init : ByteArray := prog_4_method_1_code
def yX2_init : MethodName := ⟨RX2, "<init>", "()V"⟩
abbrev cX2_clear : ByteArray := prog_4_method_2_code
def yX2_clear : MethodName := ⟨RX2, "clear", "()V"⟩
abbrev cX2_add : ByteArray := prog_4_method_3_code
def yX2_add : MethodName := ⟨RX2, "add", "(LUnimodularTables$Table;)V"⟩
abbrev cX2_takeBack : ByteArray := prog_4_method_4_code
def yX2_takeBack : MethodName := ⟨RX2, "takeBack", "(LUnimodularTables$Table;)V"⟩
def RX3 : String := "UnimodularTables$Pattern"
def TX3 : u_T := fun k => match k with
  | 0 => ("UnimodularTables$Pattern", "special", "LUnimodularTables$Table;", true)
  | 1 => ("UnimodularTables$Pattern", "moved", "LUnimodularTables$Table;", true)
  | _ => ("UnimodularTables$Pattern", "order", "[I", true)
def tyX3 : Nat → FieldType := fun k => match k with
  | 0 => .object "UnimodularTables$Table"
  | 1 => .object "UnimodularTables$Table"
  | _ => .array .int
abbrev wsX30 : List Cond := u_ws RX3 TX3 3
theorem nmX3 : ∀ a, a < 3 → ∀ b, b < 3 → a ≠ b → (TX3 a).2.1 ≠ (TX3 b).2.1 := by decide +kernel
theorem tyX3_ok : ∀ k, k < 3 → parseFieldDescriptor (TX3 k).2.2.1 = some (tyX3 k) := by decide +kernel
abbrev cX3_init : ByteArray := prog_5_method_1_code
def yX3_init : MethodName := ⟨RX3, "<init>", "()V"⟩
abbrev cX3_fits : ByteArray := prog_5_method_2_code
def yX3_fits : MethodName := ⟨RX3, "fits", "(LUnimodularTables$Table;Ljava/lang/String;)Z"⟩
abbrev cX3_write : ByteArray := prog_5_method_3_code
def yX3_write : MethodName := ⟨RX3, "write", "(Ljava/lang/String;)V"⟩
abbrev cX3_setOrder : ByteArray := prog_5_method_4_code
def yX3_setOrder : MethodName := ⟨RX3, "setOrder", "(I)V"⟩
abbrev cX3_notUsed : ByteArray := prog_5_method_5_code
def yX3_notUsed : MethodName := ⟨RX3, "notUsed", "(II)I"⟩
abbrev cX3_moveColumns : ByteArray := prog_5_method_6_code
def yX3_moveColumns : MethodName := ⟨RX3, "moveColumns", "(LUnimodularTables$Table;)Z"⟩
abbrev cX3_isAlike : ByteArray := prog_5_method_7_code
def yX3_isAlike : MethodName := ⟨RX3, "isAlike", "(LUnimodularTables$Table;II)Z"⟩
def RX4 : String := "UnimodularTables$Script"
def TX4 : u_T := fun k => match k with
  | 0 => ("UnimodularTables$Script", "size", "I", false)
  | 1 => ("UnimodularTables$Script", "kinds", "[I", true)
  | 2 => ("UnimodularTables$Script", "firsts", "[I", true)
  | 3 => ("UnimodularTables$Script", "seconds", "[I", true)
  | _ => ("UnimodularTables$Script", "values", "[I", true)
def tyX4 : Nat → FieldType := fun k => match k with
  | 0 => .int
  | 1 => .array .int
  | 2 => .array .int
  | 3 => .array .int
  | _ => .array .int
abbrev wsX40 : List Cond := u_ws RX4 TX4 5
theorem nmX4 : ∀ a, a < 5 → ∀ b, b < 5 → a ≠ b → (TX4 a).2.1 ≠ (TX4 b).2.1 := by decide +kernel
theorem tyX4_ok : ∀ k, k < 5 → parseFieldDescriptor (TX4 k).2.2.1 = some (tyX4 k) := by decide +kernel
abbrev cX4_init : ByteArray := prog_6_method_1_code
def yX4_init : MethodName := ⟨RX4, "<init>", "()V"⟩
abbrev cX4_read : ByteArray := prog_6_method_2_code
def yX4_read : MethodName := ⟨RX4, "read", "(LUnimodularTables$Tape;)I"⟩
abbrev cX4_isWhole : ByteArray := prog_6_method_3_code
def yX4_isWhole : MethodName := ⟨RX4, "isWhole", "(I)Z"⟩
abbrev cX4_begins : ByteArray := prog_6_method_4_code
def yX4_begins : MethodName := ⟨RX4, "begins", "(I)Z"⟩
abbrev cX4_goesOn : ByteArray := prog_6_method_5_code
def yX4_goesOn : MethodName := ⟨RX4, "goesOn", "(II)Z"⟩
abbrev cX4_tell : ByteArray := prog_6_method_6_code
def yX4_tell : MethodName := ⟨RX4, "tell", "(II)I"⟩
def RX5 : String := "UnimodularTables$Shape"
def TX5 : u_T := fun k => match k with
  | 0 => ("UnimodularTables$Shape", "rows", "I", false)
  | 1 => ("UnimodularTables$Shape", "columns", "I", false)
  | 2 => ("UnimodularTables$Shape", "across", "[I", true)
  | 3 => ("UnimodularTables$Shape", "down", "[I", true)
  | 4 => ("UnimodularTables$Shape", "parts", "I", false)
  | 5 => ("UnimodularTables$Shape", "partRows", "[I", true)
  | _ => ("UnimodularTables$Shape", "partColumns", "[I", true)
def tyX5 : Nat → FieldType := fun k => match k with
  | 0 => .int
  | 1 => .int
  | 2 => .array .int
  | 3 => .array .int
  | 4 => .int
  | 5 => .array .int
  | _ => .array .int
abbrev wsX50 : List Cond := u_ws RX5 TX5 7
theorem nmX5 : ∀ a, a < 7 → ∀ b, b < 7 → a ≠ b → (TX5 a).2.1 ≠ (TX5 b).2.1 := by decide +kernel
theorem tyX5_ok : ∀ k, k < 7 → parseFieldDescriptor (TX5 k).2.2.1 = some (tyX5 k) := by decide +kernel
abbrev cX5_init : ByteArray := prog_7_method_1_code
def yX5_init : MethodName := ⟨RX5, "<init>", "()V"⟩
abbrev cX5_takeFrom : ByteArray := prog_7_method_2_code
def yX5_takeFrom : MethodName := ⟨RX5, "takeFrom", "(LUnimodularTables$Table;)V"⟩
abbrev cX5_columnsMetBy : ByteArray := prog_7_method_3_code
def yX5_columnsMetBy : MethodName := ⟨RX5, "columnsMetBy", "(I)I"⟩
abbrev cX5_rowsMetBy : ByteArray := prog_7_method_4_code
def yX5_rowsMetBy : MethodName := ⟨RX5, "rowsMetBy", "(I)I"⟩
abbrev cX5_findParts : ByteArray := prog_7_method_5_code
def yX5_findParts : MethodName := ⟨RX5, "findParts", "()V"⟩
abbrev cX5_allJoinedTo : ByteArray := prog_7_method_6_code
def yX5_allJoinedTo : MethodName := ⟨RX5, "allJoinedTo", "(I)I"⟩
abbrev cX5_addPart : ByteArray := prog_7_method_7_code
def yX5_addPart : MethodName := ⟨RX5, "addPart", "(II)V"⟩
abbrev cX5_partOf : ByteArray := prog_7_method_8_code
def yX5_partOf : MethodName := ⟨RX5, "partOf", "(II)I"⟩
abbrev cX5_mostApart : ByteArray := prog_7_method_9_code
def yX5_mostApart : MethodName := ⟨RX5, "mostApart", "()I"⟩
abbrev cX5_areApart : ByteArray := prog_7_method_10_code
def yX5_areApart : MethodName := ⟨RX5, "areApart", "(I)Z"⟩
abbrev cX5_fewestMeeting : ByteArray := prog_7_method_11_code
def yX5_fewestMeeting : MethodName := ⟨RX5, "fewestMeeting", "()I"⟩
abbrev cX5_shortestRound : ByteArray := prog_7_method_12_code
def yX5_shortestRound : MethodName := ⟨RX5, "shortestRound", "()I"⟩
abbrev cX5_roundBy : ByteArray := prog_7_method_13_code
def yX5_roundBy : MethodName := ⟨RX5, "roundBy", "(II)I"⟩
def RX6 : String := "UnimodularTables$Signing"
def TX6 : u_T := fun k => match k with
  | 0 => ("UnimodularTables$Signing", "signs", "LUnimodularTables$Table;", true)
  | 1 => ("UnimodularTables$Signing", "rowParts", "[I", true)
  | 2 => ("UnimodularTables$Signing", "columnParts", "[I", true)
  | 3 => ("UnimodularTables$Signing", "rowsFar", "[I", true)
  | 4 => ("UnimodularTables$Signing", "columnsFar", "[I", true)
  | 5 => ("UnimodularTables$Signing", "nextRow", "I", false)
  | 6 => ("UnimodularTables$Signing", "nextColumn", "I", false)
  | _ => ("UnimodularTables$Signing", "known", "Z", false)
def tyX6 : Nat → FieldType := fun k => match k with
  | 0 => .object "UnimodularTables$Table"
  | 1 => .array .int
  | 2 => .array .int
  | 3 => .array .int
  | 4 => .array .int
  | 5 => .int
  | 6 => .int
  | _ => .boolean
abbrev wsX60 : List Cond := u_ws RX6 TX6 8
theorem nmX6 : ∀ a, a < 8 → ∀ b, b < 8 → a ≠ b → (TX6 a).2.1 ≠ (TX6 b).2.1 := by decide +kernel
theorem tyX6_ok : ∀ k, k < 8 → parseFieldDescriptor (TX6 k).2.2.1 = some (tyX6 k) := by decide +kernel
abbrev cX6_init : ByteArray := prog_8_method_1_code
def yX6_init : MethodName := ⟨RX6, "<init>", "()V"⟩
abbrev cX6_signAll : ByteArray := prog_8_method_2_code
def yX6_signAll : MethodName := ⟨RX6, "signAll", "(LUnimodularTables$Table;)V"⟩
abbrev cX6_signForest : ByteArray := prog_8_method_3_code
def yX6_signForest : MethodName := ⟨RX6, "signForest", "(LUnimodularTables$Table;)V"⟩
abbrev cX6_unite : ByteArray := prog_8_method_4_code
def yX6_unite : MethodName := ⟨RX6, "unite", "(II)V"⟩
abbrev cX6_findNext : ByteArray := prog_8_method_5_code
def yX6_findNext : MethodName := ⟨RX6, "findNext", "(LUnimodularTables$Table;)Z"⟩
abbrev cX6_measureFrom : ByteArray := prog_8_method_6_code
def yX6_measureFrom : MethodName := ⟨RX6, "measureFrom", "(I)V"⟩
abbrev cX6_reachRows : ByteArray := prog_8_method_7_code
def yX6_reachRows : MethodName := ⟨RX6, "reachRows", "(I)V"⟩
abbrev cX6_reachColumns : ByteArray := prog_8_method_8_code
def yX6_reachColumns : MethodName := ⟨RX6, "reachColumns", "(I)V"⟩
abbrev cX6_sumOfWay : ByteArray := prog_8_method_9_code
def yX6_sumOfWay : MethodName := ⟨RX6, "sumOfWay", "(I)I"⟩
abbrev cX6_columnToldAt : ByteArray := prog_8_method_10_code
def yX6_columnToldAt : MethodName := ⟨RX6, "columnToldAt", "(II)I"⟩
abbrev cX6_rowToldAt : ByteArray := prog_8_method_11_code
def yX6_rowToldAt : MethodName := ⟨RX6, "rowToldAt", "(II)I"⟩
def RX7 : String := "UnimodularTables$Table"
def TX7 : u_T := fun k => match k with
  | 0 => ("UnimodularTables$Table", "rows", "I", false)
  | 1 => ("UnimodularTables$Table", "columns", "I", false)
  | _ => ("UnimodularTables$Table", "cells", "[I", true)
def tyX7 : Nat → FieldType := fun k => match k with
  | 0 => .int
  | 1 => .int
  | _ => .array .int
abbrev wsX70 : List Cond := u_ws RX7 TX7 3
theorem nmX7 : ∀ a, a < 3 → ∀ b, b < 3 → a ≠ b → (TX7 a).2.1 ≠ (TX7 b).2.1 := by decide +kernel
theorem tyX7_ok : ∀ k, k < 3 → parseFieldDescriptor (TX7 k).2.2.1 = some (tyX7 k) := by decide +kernel
abbrev cX7_init : ByteArray := prog_9_method_1_code
def yX7_init : MethodName := ⟨RX7, "<init>", "()V"⟩
abbrev cX7_isNone : ByteArray := prog_9_method_2_code
def yX7_isNone : MethodName := ⟨RX7, "isNone", "()Z"⟩
abbrev cX7_has : ByteArray := prog_9_method_3_code
def yX7_has : MethodName := ⟨RX7, "has", "(II)Z"⟩
abbrev cX7_hasRowSet : ByteArray := prog_9_method_4_code
def yX7_hasRowSet : MethodName := ⟨RX7, "hasRowSet", "(I)Z"⟩
abbrev cX7_hasColumnSet : ByteArray := prog_9_method_5_code
def yX7_hasColumnSet : MethodName := ⟨RX7, "hasColumnSet", "(I)Z"⟩
abbrev cX7_at : ByteArray := prog_9_method_6_code
def yX7_at : MethodName := ⟨RX7, "at", "(II)I"⟩
abbrev cX7_put : ByteArray := prog_9_method_7_code
def yX7_put : MethodName := ⟨RX7, "put", "(III)V"⟩
abbrev cX7_copyFrom : ByteArray := prog_9_method_8_code
def yX7_copyFrom : MethodName := ⟨RX7, "copyFrom", "(LUnimodularTables$Table;)V"⟩
abbrev cX7_clear : ByteArray := prog_9_method_9_code
def yX7_clear : MethodName := ⟨RX7, "clear", "(II)V"⟩
abbrev cX7_notNought : ByteArray := prog_9_method_10_code
def yX7_notNought : MethodName := ⟨RX7, "notNought", "()I"⟩
abbrev cX7_read : ByteArray := prog_9_method_11_code
def yX7_read : MethodName := ⟨RX7, "read", "(LUnimodularTables$Tape;)I"⟩
abbrev cX7_isRowFull : ByteArray := prog_9_method_12_code
def yX7_isRowFull : MethodName := ⟨RX7, "isRowFull", "(III)Z"⟩
abbrev cX7_act : ByteArray := prog_9_method_13_code
def yX7_act : MethodName := ⟨RX7, "act", "(IIII)I"⟩
abbrev cX7_onColumns : ByteArray := prog_9_method_14_code
def yX7_onColumns : MethodName := ⟨RX7, "onColumns", "(III)I"⟩
abbrev cX7_negateRow : ByteArray := prog_9_method_15_code
def yX7_negateRow : MethodName := ⟨RX7, "negateRow", "(I)I"⟩
abbrev cX7_changeRows : ByteArray := prog_9_method_16_code
def yX7_changeRows : MethodName := ⟨RX7, "changeRows", "(II)I"⟩
abbrev cX7_dropRow : ByteArray := prog_9_method_17_code
def yX7_dropRow : MethodName := ⟨RX7, "dropRow", "(I)I"⟩
abbrev cX7_set : ByteArray := prog_9_method_18_code
def yX7_set : MethodName := ⟨RX7, "set", "(III)I"⟩
abbrev cX7_transpose : ByteArray := prog_9_method_19_code
def yX7_transpose : MethodName := ⟨RX7, "transpose", "()I"⟩
abbrev cX7_turn : ByteArray := prog_9_method_20_code
def yX7_turn : MethodName := ⟨RX7, "turn", "(II)I"⟩
abbrev cX7_canTurn : ByteArray := prog_9_method_21_code
def yX7_canTurn : MethodName := ⟨RX7, "canTurn", "(II)Z"⟩
abbrev cX7_becomeJoined : ByteArray := prog_9_method_22_code
def yX7_becomeJoined : MethodName := ⟨RX7, "becomeJoined", "(LUnimodularTables$Table;LUnimodularTables$Table;)I"⟩
abbrev cX7_becomeLinked : ByteArray := prog_9_method_23_code
def yX7_becomeLinked : MethodName := ⟨RX7, "becomeLinked", "(LUnimodularTables$Table;LUnimodularTables$Table;)I"⟩
abbrev cX7_linked : ByteArray := prog_9_method_24_code
def yX7_linked : MethodName := ⟨RX7, "linked", "(LUnimodularTables$Table;LUnimodularTables$Table;II)I"⟩
abbrev cX7_halved : ByteArray := prog_9_method_25_code
def yX7_halved : MethodName := ⟨RX7, "halved", "(I)I"⟩
abbrev cX7_halvesAll : ByteArray := prog_9_method_26_code
def yX7_halvesAll : MethodName := ⟨RX7, "halvesAll", "(II)Z"⟩
abbrev cX7_scalesTo : ByteArray := prog_9_method_27_code
def yX7_scalesTo : MethodName := ⟨RX7, "scalesTo", "(LUnimodularTables$Table;)Z"⟩
abbrev cX7_columnIs : ByteArray := prog_9_method_28_code
def yX7_columnIs : MethodName := ⟨RX7, "columnIs", "(LUnimodularTables$Table;III)Z"⟩
def RX8 : String := "UnimodularTables$Tape"
def TX8 : u_T := fun k => match k with
  | 0 => ("UnimodularTables$Tape", "bytes", "[I", true)
  | _ => ("UnimodularTables$Tape", "length", "I", false)
def tyX8 : Nat → FieldType := fun k => match k with
  | 0 => .array .int
  | _ => .int
abbrev wsX80 : List Cond := u_ws RX8 TX8 2
theorem nmX8 : ∀ a, a < 2 → ∀ b, b < 2 → a ≠ b → (TX8 a).2.1 ≠ (TX8 b).2.1 := by decide +kernel
theorem tyX8_ok : ∀ k, k < 2 → parseFieldDescriptor (TX8 k).2.2.1 = some (tyX8 k) := by decide +kernel
abbrev cX8_init : ByteArray := prog_10_method_1_code
def yX8_init : MethodName := ⟨RX8, "<init>", "()V"⟩
abbrev cX8_bytesIn : ByteArray := prog_10_method_2_code
def yX8_bytesIn : MethodName := ⟨RX8, "bytesIn", "(I)I"⟩
abbrev cX8_append : ByteArray := prog_10_method_3_code
def yX8_append : MethodName := ⟨RX8, "append", "(I)V"⟩
abbrev cX8_at : ByteArray := prog_10_method_4_code
def yX8_at : MethodName := ⟨RX8, "at", "(I)I"⟩
def RX9 : String := "UnimodularTables$Tree"
def TX9 : u_T := fun k => match k with
  | 0 => ("UnimodularTables$Tree", "plan", "LUnimodularTables$Table;", true)
  | 1 => ("UnimodularTables$Tree", "tails", "[I", true)
  | 2 => ("UnimodularTables$Tree", "heads", "[I", true)
  | 3 => ("UnimodularTables$Tree", "found", "Z", false)
  | _ => ("UnimodularTables$Tree", "known", "Z", false)
def tyX9 : Nat → FieldType := fun k => match k with
  | 0 => .object "UnimodularTables$Table"
  | 1 => .array .int
  | 2 => .array .int
  | 3 => .boolean
  | _ => .boolean
abbrev wsX90 : List Cond := u_ws RX9 TX9 5
theorem nmX9 : ∀ a, a < 5 → ∀ b, b < 5 → a ≠ b → (TX9 a).2.1 ≠ (TX9 b).2.1 := by decide +kernel
theorem tyX9_ok : ∀ k, k < 5 → parseFieldDescriptor (TX9 k).2.2.1 = some (tyX9 k) := by decide +kernel
abbrev cX9_init : ByteArray := prog_11_method_1_code
def yX9_init : MethodName := ⟨RX9, "<init>", "()V"⟩
abbrev cX9_seek : ByteArray := prog_11_method_2_code
def yX9_seek : MethodName := ⟨RX9, "seek", "(LUnimodularTables$Table;ZZ)V"⟩
abbrev cX9_grow : ByteArray := prog_11_method_3_code
def yX9_grow : MethodName := ⟨RX9, "grow", "(I)Z"⟩
abbrev cX9_isNew : ByteArray := prog_11_method_4_code
def yX9_isNew : MethodName := ⟨RX9, "isNew", "(II)Z"⟩
abbrev cX9_growBy : ByteArray := prog_11_method_5_code
def yX9_growBy : MethodName := ⟨RX9, "growBy", "(IIII)Z"⟩
abbrev cX9_arcsAt : ByteArray := prog_11_method_6_code
def yX9_arcsAt : MethodName := ⟨RX9, "arcsAt", "(II)I"⟩
abbrev cX9_moveEnds : ByteArray := prog_11_method_7_code
def yX9_moveEnds : MethodName := ⟨RX9, "moveEnds", "(III)V"⟩
abbrev cX9_areWays : ByteArray := prog_11_method_8_code
def yX9_areWays : MethodName := ⟨RX9, "areWays", "(I)Z"⟩
abbrev cX9_starts : ByteArray := prog_11_method_9_code
def yX9_starts : MethodName := ⟨RX9, "starts", "(II)I"⟩
abbrev cX9_leaves : ByteArray := prog_11_method_10_code
def yX9_leaves : MethodName := ⟨RX9, "leaves", "(II)I"⟩
abbrev cX9_reaches : ByteArray := prog_11_method_11_code
def yX9_reaches : MethodName := ⟨RX9, "reaches", "(II)I"⟩
abbrev cX9_endOf : ByteArray := prog_11_method_12_code
def yX9_endOf : MethodName := ⟨RX9, "endOf", "(II)I"⟩
abbrev cX9_arcOnWay : ByteArray := prog_11_method_13_code
def yX9_arcOnWay : MethodName := ⟨RX9, "arcOnWay", "(II)I"⟩
abbrev cX9_arcFrom : ByteArray := prog_11_method_14_code
def yX9_arcFrom : MethodName := ⟨RX9, "arcFrom", "(II)I"⟩
def RX10 : String := "UnimodularTables"
def TX10 : u_T := fun k => match k with
  | 0 => ("UnimodularTables", "tape", "LUnimodularTables$Tape;", true)
  | 1 => ("UnimodularTables", "table", "LUnimodularTables$Table;", true)
  | 2 => ("UnimodularTables", "before", "LUnimodularTables$Table;", true)
  | 3 => ("UnimodularTables", "draft", "LUnimodularTables$Table;", true)
  | 4 => ("UnimodularTables", "past", "LUnimodularTables$Past;", true)
  | 5 => ("UnimodularTables", "keptTables", "[LUnimodularTables$Table;", true)
  | 6 => ("UnimodularTables", "keptCount", "I", false)
  | 7 => ("UnimodularTables", "scripts", "[LUnimodularTables$Script;", true)
  | 8 => ("UnimodularTables", "scriptCount", "I", false)
  | 9 => ("UnimodularTables", "pictured", "LUnimodularTables$Table;", true)
  | 10 => ("UnimodularTables", "picturedKept", "I", false)
  | 11 => ("UnimodularTables", "refusals", "[I", true)
  | 12 => ("UnimodularTables", "minors", "LUnimodularTables$Minors;", true)
  | 13 => ("UnimodularTables", "tree", "LUnimodularTables$Tree;", true)
  | 14 => ("UnimodularTables", "cotree", "LUnimodularTables$Tree;", true)
  | 15 => ("UnimodularTables", "signing", "LUnimodularTables$Signing;", true)
  | 16 => ("UnimodularTables", "shape", "LUnimodularTables$Shape;", true)
  | 17 => ("UnimodularTables", "pattern", "LUnimodularTables$Pattern;", true)
  | _ => ("UnimodularTables", "dice", "LUnimodularTables$Dice;", true)
def tyX10 : Nat → FieldType := fun k => match k with
  | 0 => .object "UnimodularTables$Tape"
  | 1 => .object "UnimodularTables$Table"
  | 2 => .object "UnimodularTables$Table"
  | 3 => .object "UnimodularTables$Table"
  | 4 => .object "UnimodularTables$Past"
  | 5 => .array (.object "UnimodularTables$Table")
  | 6 => .int
  | 7 => .array (.object "UnimodularTables$Script")
  | 8 => .int
  | 9 => .object "UnimodularTables$Table"
  | 10 => .int
  | 11 => .array .int
  | 12 => .object "UnimodularTables$Minors"
  | 13 => .object "UnimodularTables$Tree"
  | 14 => .object "UnimodularTables$Tree"
  | 15 => .object "UnimodularTables$Signing"
  | 16 => .object "UnimodularTables$Shape"
  | 17 => .object "UnimodularTables$Pattern"
  | _ => .object "UnimodularTables$Dice"
abbrev wsX100 : List Cond := u_ws RX10 TX10 19
theorem nmX10 : ∀ a, a < 19 → ∀ b, b < 19 → a ≠ b → (TX10 a).2.1 ≠ (TX10 b).2.1 := by decide +kernel
theorem tyX10_ok : ∀ k, k < 19 → parseFieldDescriptor (TX10 k).2.2.1 = some (tyX10 k) := by decide +kernel
abbrev cX10_init : ByteArray := prog_1_method_1_code
def yX10_init : MethodName := ⟨RX10, "<init>", "()V"⟩
abbrev cX10_feed : ByteArray := prog_1_method_2_code
def yX10_feed : MethodName := ⟨RX10, "feed", "(IIIII)I"⟩
abbrev cX10_end : ByteArray := prog_1_method_3_code
def yX10_end : MethodName := ⟨RX10, "end", "(I)Z"⟩
abbrev cX10_fault : ByteArray := prog_1_method_4_code
def yX10_fault : MethodName := ⟨RX10, "fault", "(I)I"⟩
abbrev cX10_text : ByteArray := prog_1_method_5_code
def yX10_text : MethodName := ⟨RX10, "text", "(I)I"⟩
abbrev cX10_entry : ByteArray := prog_1_method_6_code
def yX10_entry : MethodName := ⟨RX10, "entry", "(II)I"⟩
abbrev cX10_change : ByteArray := prog_1_method_7_code
def yX10_change : MethodName := ⟨RX10, "change", "(III)I"⟩
abbrev cX10_deal : ByteArray := prog_1_method_8_code
def yX10_deal : MethodName := ⟨RX10, "deal", "(III)I"⟩
abbrev cX10_keep : ByteArray := prog_1_method_9_code
def yX10_keep : MethodName := ⟨RX10, "keep", "()I"⟩
abbrev cX10_kept : ByteArray := prog_1_method_10_code
def yX10_kept : MethodName := ⟨RX10, "kept", "(III)I"⟩
abbrev cX10_join : ByteArray := prog_1_method_11_code
def yX10_join : MethodName := ⟨RX10, "join", "(III)I"⟩
abbrev cX10_undo : ByteArray := prog_1_method_12_code
def yX10_undo : MethodName := ⟨RX10, "undo", "()I"⟩
abbrev cX10_det : ByteArray := prog_1_method_13_code
def yX10_det : MethodName := ⟨RX10, "det", "(II)I"⟩
abbrev cX10_squares : ByteArray := prog_1_method_14_code
def yX10_squares : MethodName := ⟨RX10, "squares", "(II)I"⟩
abbrev cX10_total : ByteArray := prog_1_method_15_code
def yX10_total : MethodName := ⟨RX10, "total", "()I"⟩
abbrev cX10_witness : ByteArray := prog_1_method_16_code
def yX10_witness : MethodName := ⟨RX10, "witness", "(I)I"⟩
abbrev cX10_halves : ByteArray := prog_1_method_17_code
def yX10_halves : MethodName := ⟨RX10, "halves", "(I)I"⟩
abbrev cX10_unhalved : ByteArray := prog_1_method_18_code
def yX10_unhalved : MethodName := ⟨RX10, "unhalved", "()I"⟩
abbrev cX10_network : ByteArray := prog_1_method_19_code
def yX10_network : MethodName := ⟨RX10, "network", "(I)I"⟩
abbrev cX10_arc : ByteArray := prog_1_method_20_code
def yX10_arc : MethodName := ⟨RX10, "arc", "(III)I"⟩
abbrev cX10_way : ByteArray := prog_1_method_21_code
def yX10_way : MethodName := ⟨RX10, "way", "(III)I"⟩
abbrev cX10_signed : ByteArray := prog_1_method_22_code
def yX10_signed : MethodName := ⟨RX10, "signed", "(II)I"⟩
abbrev cX10_regular : ByteArray := prog_1_method_23_code
def yX10_regular : MethodName := ⟨RX10, "regular", "()I"⟩
abbrev cX10_scaled : ByteArray := prog_1_method_24_code
def yX10_scaled : MethodName := ⟨RX10, "scaled", "(I)I"⟩
abbrev cX10_special : ByteArray := prog_1_method_25_code
def yX10_special : MethodName := ⟨RX10, "special", "()I"⟩
abbrev cX10_block : ByteArray := prog_1_method_26_code
def yX10_block : MethodName := ⟨RX10, "block", "(II)I"⟩
abbrev cX10_rank : ByteArray := prog_1_method_27_code
def yX10_rank : MethodName := ⟨RX10, "rank", "(I)I"⟩
abbrev cX10_bases : ByteArray := prog_1_method_28_code
def yX10_bases : MethodName := ⟨RX10, "bases", "()I"⟩
abbrev cX10_mends : ByteArray := prog_1_method_29_code
def yX10_mends : MethodName := ⟨RX10, "mends", "()I"⟩
abbrev cX10_fragile : ByteArray := prog_1_method_30_code
def yX10_fragile : MethodName := ⟨RX10, "fragile", "()I"⟩
abbrev cX10_fills : ByteArray := prog_1_method_31_code
def yX10_fills : MethodName := ⟨RX10, "fills", "(II)I"⟩
abbrev cX10_pack : ByteArray := prog_1_method_32_code
def yX10_pack : MethodName := ⟨RX10, "pack", "(I)I"⟩
abbrev cX10_adjoint : ByteArray := prog_1_method_33_code
def yX10_adjoint : MethodName := ⟨RX10, "adjoint", "(II)I"⟩
abbrev cX10_cycle : ByteArray := prog_1_method_34_code
def yX10_cycle : MethodName := ⟨RX10, "cycle", "()I"⟩
abbrev cX10_step : ByteArray := prog_1_method_35_code
def yX10_step : MethodName := ⟨RX10, "step", "(III)I"⟩
abbrev cX10_run : ByteArray := prog_1_method_36_code
def yX10_run : MethodName := ⟨RX10, "run", "(II)I"⟩
abbrev cX10_perform : ByteArray := prog_1_method_37_code
def yX10_perform : MethodName := ⟨RX10, "perform", "(I)I"⟩
abbrev cX10_draws : ByteArray := prog_1_method_38_code
def yX10_draws : MethodName := ⟨RX10, "draws", "(IJ)I"⟩
abbrev cX10_status : ByteArray := prog_1_method_39_code
def yX10_status : MethodName := ⟨RX10, "status", "(I)I"⟩
abbrev cX10_image : ByteArray := prog_1_method_40_code
def yX10_image : MethodName := ⟨RX10, "image", "()I"⟩
abbrev cX10_back : ByteArray := prog_1_method_41_code
def yX10_back : MethodName := ⟨RX10, "back", "()I"⟩
abbrev cX10_count : ByteArray := prog_1_method_42_code
def yX10_count : MethodName := ⟨RX10, "count", "(I)I"⟩
abbrev cX10_tableFromTape : ByteArray := prog_1_method_43_code
def yX10_tableFromTape : MethodName := ⟨RX10, "tableFromTape", "()I"⟩
abbrev cX10_scriptFromTape : ByteArray := prog_1_method_44_code
def yX10_scriptFromTape : MethodName := ⟨RX10, "scriptFromTape", "()I"⟩
abbrev cX10_hasSide : ByteArray := prog_1_method_45_code
def yX10_hasSide : MethodName := ⟨RX10, "hasSide", "(I)Z"⟩
abbrev cX10_isKept : ByteArray := prog_1_method_46_code
def yX10_isKept : MethodName := ⟨RX10, "isKept", "(I)Z"⟩
abbrev cX10_isScript : ByteArray := prog_1_method_47_code
def yX10_isScript : MethodName := ⟨RX10, "isScript", "(I)Z"⟩
abbrev cX10_refused : ByteArray := prog_1_method_48_code
def yX10_refused : MethodName := ⟨RX10, "refused", "(I)Z"⟩
abbrev cX10_actOfDeal : ByteArray := prog_1_method_49_code
def yX10_actOfDeal : MethodName := ⟨RX10, "actOfDeal", "(I)I"⟩
abbrev cX10_attempt : ByteArray := prog_1_method_50_code
def yX10_attempt : MethodName := ⟨RX10, "attempt", "(IIII)I"⟩
abbrev cX10_attemptSum : ByteArray := prog_1_method_51_code
def yX10_attemptSum : MethodName := ⟨RX10, "attemptSum", "(III)I"⟩
abbrev cX10_attemptDraw : ByteArray := prog_1_method_52_code
def yX10_attemptDraw : MethodName := ⟨RX10, "attemptDraw", "()I"⟩
abbrev cX10_settle : ByteArray := prog_1_method_53_code
def yX10_settle : MethodName := ⟨RX10, "settle", "(I)I"⟩
abbrev cX10_forget : ByteArray := prog_1_method_54_code
def yX10_forget : MethodName := ⟨RX10, "forget", "()V"⟩
abbrev cX10_knownMinors : ByteArray := prog_1_method_55_code
def yX10_knownMinors : MethodName := ⟨RX10, "knownMinors", "()LUnimodularTables$Minors;"⟩
abbrev cX10_knownTree : ByteArray := prog_1_method_56_code
def yX10_knownTree : MethodName := ⟨RX10, "knownTree", "(I)LUnimodularTables$Tree;"⟩
abbrev cX10_knownSigns : ByteArray := prog_1_method_57_code
def yX10_knownSigns : MethodName := ⟨RX10, "knownSigns", "()LUnimodularTables$Table;"⟩
abbrev cX10_isTotal : ByteArray := prog_1_method_58_code
def yX10_isTotal : MethodName := ⟨RX10, "isTotal", "(LUnimodularTables$Table;)Z"⟩
abbrev cX10_firstMend : ByteArray := prog_1_method_59_code
def yX10_firstMend : MethodName := ⟨RX10, "firstMend", "()I"⟩
abbrev cX10_valueOfSign : ByteArray := prog_1_method_60_code
def yX10_valueOfSign : MethodName := ⟨RX10, "valueOfSign", "(I)I"⟩
abbrev cX10_isBeyond : ByteArray := prog_1_method_61_code
def yX10_isBeyond : MethodName := ⟨RX10, "isBeyond", "(I)Z"⟩
abbrev cX10_isIn : ByteArray := prog_1_method_62_code
def yX10_isIn : MethodName := ⟨RX10, "isIn", "(II)Z"⟩
def RX11 : String := "UnimodularTablesModel"
def TX11 : u_T := fun k => match k with
  | 0 => ("UnimodularTablesModel", "thrown", "I", false)
  | 1 => ("UnimodularTablesModel", "tape", "[B", true)
  | 2 => ("UnimodularTablesModel", "length", "I", false)
  | 3 => ("UnimodularTablesModel", "at", "I", false)
  | 4 => ("UnimodularTablesModel", "fault", "I", false)
  | 5 => ("UnimodularTablesModel", "now", "[I", true)
  | 6 => ("UnimodularTablesModel", "read", "[I", true)
  | 7 => ("UnimodularTablesModel", "trial", "[I", true)
  | 8 => ("UnimodularTablesModel", "kept", "[I", true)
  | 9 => ("UnimodularTablesModel", "plan", "[I", true)
  | 10 => ("UnimodularTablesModel", "planLong", "[I", true)
  | 11 => ("UnimodularTablesModel", "status", "[I", true)
  | 12 => ("UnimodularTablesModel", "keptMany", "I", false)
  | 13 => ("UnimodularTablesModel", "plans", "I", false)
  | 14 => ("UnimodularTablesModel", "undoRow", "[I", true)
  | 15 => ("UnimodularTablesModel", "acts", "I", false)
  | 16 => ("UnimodularTablesModel", "dets", "[I", true)
  | 17 => ("UnimodularTablesModel", "from", "[I", true)
  | 18 => ("UnimodularTablesModel", "to", "[I", true)
  | 19 => ("UnimodularTablesModel", "treeRow", "[I", true)
  | 20 => ("UnimodularTablesModel", "walk", "[I", true)
  | 21 => ("UnimodularTablesModel", "walkLong", "I", false)
  | 22 => ("UnimodularTablesModel", "part", "[I", true)
  | 23 => ("UnimodularTablesModel", "steps", "[I", true)
  | 24 => ("UnimodularTablesModel", "sign", "[I", true)
  | 25 => ("UnimodularTablesModel", "factor", "[I", true)
  | 26 => ("UnimodularTablesModel", "goal", "[I", true)
  | 27 => ("UnimodularTablesModel", "laid", "[I", true)
  | 28 => ("UnimodularTablesModel", "rowsLaid", "[I", true)
  | 29 => ("UnimodularTablesModel", "columnsLaid", "[I", true)
  | 30 => ("UnimodularTablesModel", "apart", "[I", true)
  | 31 => ("UnimodularTablesModel", "x", "J", false)
  | 32 => ("UnimodularTablesModel", "imageRow", "[I", true)
  | 33 => ("UnimodularTablesModel", "imageKept", "I", false)
  | _ => ("UnimodularTablesModel", "hasImage", "Z", false)
def tyX11 : Nat → FieldType := fun k => match k with
  | 0 => .int
  | 1 => .array .byte
  | 2 => .int
  | 3 => .int
  | 4 => .int
  | 5 => .array .int
  | 6 => .array .int
  | 7 => .array .int
  | 8 => .array .int
  | 9 => .array .int
  | 10 => .array .int
  | 11 => .array .int
  | 12 => .int
  | 13 => .int
  | 14 => .array .int
  | 15 => .int
  | 16 => .array .int
  | 17 => .array .int
  | 18 => .array .int
  | 19 => .array .int
  | 20 => .array .int
  | 21 => .int
  | 22 => .array .int
  | 23 => .array .int
  | 24 => .array .int
  | 25 => .array .int
  | 26 => .array .int
  | 27 => .array .int
  | 28 => .array .int
  | 29 => .array .int
  | 30 => .array .int
  | 31 => .long
  | 32 => .array .int
  | 33 => .int
  | _ => .boolean
abbrev wsX110 : List Cond := u_ws RX11 TX11 35
theorem nmX11 : ∀ a, a < 35 → ∀ b, b < 35 → a ≠ b → (TX11 a).2.1 ≠ (TX11 b).2.1 := by decide +kernel
theorem tyX11_ok : ∀ k, k < 35 → parseFieldDescriptor (TX11 k).2.2.1 = some (tyX11 k) := by decide +kernel
abbrev cX11_init : ByteArray := prog_13_method_1_code
def yX11_init : MethodName := ⟨RX11, "<init>", "()V"⟩
abbrev cX11_thrown : ByteArray := prog_13_method_2_code
def yX11_thrown : MethodName := ⟨RX11, "thrown", "()I"⟩
abbrev cX11_isIn : ByteArray := prog_13_method_3_code
def yX11_isIn : MethodName := ⟨RX11, "isIn", "(JJJ)Z"⟩
abbrev cX11_has : ByteArray := prog_13_method_4_code
def yX11_has : MethodName := ⟨RX11, "has", "(II)Z"⟩
abbrev cX11_sizeOf : ByteArray := prog_13_method_5_code
def yX11_sizeOf : MethodName := ⟨RX11, "sizeOf", "(I)I"⟩
abbrev cX11_bytesOf : ByteArray := prog_13_method_6_code
def yX11_bytesOf : MethodName := ⟨RX11, "bytesOf", "(I)I"⟩
abbrev cX11_brings : ByteArray := prog_13_method_7_code
def yX11_brings : MethodName := ⟨RX11, "brings", "(I)V"⟩
abbrev cX11_feed : ByteArray := prog_13_method_8_code
def yX11_feed : MethodName := ⟨RX11, "feed", "(IIIII)I"⟩
abbrev cX11_end : ByteArray := prog_13_method_9_code
def yX11_end : MethodName := ⟨RX11, "end", "(I)Z"⟩
abbrev cX11_here : ByteArray := prog_13_method_10_code
def yX11_here : MethodName := ⟨RX11, "here", "()I"⟩
abbrev cX11_look : ByteArray := prog_13_method_11_code
def yX11_look : MethodName := ⟨RX11, "look", "()I"⟩
abbrev cX11_fails : ByteArray := prog_13_method_12_code
def yX11_fails : MethodName := ⟨RX11, "fails", "()V"⟩
abbrev cX11_spotOf : ByteArray := prog_13_method_13_code
def yX11_spotOf : MethodName := ⟨RX11, "spotOf", "(Ljava/lang/String;I)I"⟩
abbrev cX11_readRow : ByteArray := prog_13_method_14_code
def yX11_readRow : MethodName := ⟨RX11, "readRow", "()V"⟩
abbrev cX11_readTable : ByteArray := prog_13_method_15_code
def yX11_readTable : MethodName := ⟨RX11, "readTable", "()V"⟩
abbrev cX11_digit : ByteArray := prog_13_method_16_code
def yX11_digit : MethodName := ⟨RX11, "digit", "()I"⟩
abbrev cX11_readStep : ByteArray := prog_13_method_17_code
def yX11_readStep : MethodName := ⟨RX11, "readStep", "(I)V"⟩
abbrev cX11_readPlan : ByteArray := prog_13_method_18_code
def yX11_readPlan : MethodName := ⟨RX11, "readPlan", "()V"⟩
abbrev cX11_fault : ByteArray := prog_13_method_19_code
def yX11_fault : MethodName := ⟨RX11, "fault", "(I)I"⟩
abbrev cX11_text : ByteArray := prog_13_method_20_code
def yX11_text : MethodName := ⟨RX11, "text", "(I)I"⟩
abbrev cX11_copy : ByteArray := prog_13_method_21_code
def yX11_copy : MethodName := ⟨RX11, "copy", "([I[I)V"⟩
abbrev cX11_isCell : ByteArray := prog_13_method_22_code
def yX11_isCell : MethodName := ⟨RX11, "isCell", "([III)Z"⟩
abbrev cX11_entry : ByteArray := prog_13_method_23_code
def yX11_entry : MethodName := ⟨RX11, "entry", "(II)I"⟩
abbrev cX11_remember : ByteArray := prog_13_method_24_code
def yX11_remember : MethodName := ⟨RX11, "remember", "()V"⟩
abbrev cX11_refused : ByteArray := prog_13_method_25_code
def yX11_refused : MethodName := ⟨RX11, "refused", "(I)I"⟩
abbrev cX11_change : ByteArray := prog_13_method_26_code
def yX11_change : MethodName := ⟨RX11, "change", "(III)I"⟩
abbrev cX11_canTurn : ByteArray := prog_13_method_27_code
def yX11_canTurn : MethodName := ⟨RX11, "canTurn", "([III)Z"⟩
abbrev cX11_stops : ByteArray := prog_13_method_28_code
def yX11_stops : MethodName := ⟨RX11, "stops", "([IIII)I"⟩
abbrev cX11_swaps : ByteArray := prog_13_method_29_code
def yX11_swaps : MethodName := ⟨RX11, "swaps", "([III)V"⟩
abbrev cX11_does : ByteArray := prog_13_method_30_code
def yX11_does : MethodName := ⟨RX11, "does", "([IIII)V"⟩
abbrev cX11_deal : ByteArray := prog_13_method_31_code
def yX11_deal : MethodName := ⟨RX11, "deal", "(III)I"⟩
abbrev cX11_keep : ByteArray := prog_13_method_32_code
def yX11_keep : MethodName := ⟨RX11, "keep", "()I"⟩
abbrev cX11_isKept : ByteArray := prog_13_method_33_code
def yX11_isKept : MethodName := ⟨RX11, "isKept", "(I)Z"⟩
abbrev cX11_keptAt : ByteArray := prog_13_method_34_code
def yX11_keptAt : MethodName := ⟨RX11, "keptAt", "(III)I"⟩
abbrev cX11_kept : ByteArray := prog_13_method_35_code
def yX11_kept : MethodName := ⟨RX11, "kept", "(III)I"⟩
abbrev cX11_join : ByteArray := prog_13_method_36_code
def yX11_join : MethodName := ⟨RX11, "join", "(III)I"⟩
abbrev cX11_undo : ByteArray := prog_13_method_37_code
def yX11_undo : MethodName := ⟨RX11, "undo", "()I"⟩
abbrev cX11_laysDets : ByteArray := prog_13_method_38_code
def yX11_laysDets : MethodName := ⟨RX11, "laysDets", "([I)V"⟩
abbrev cX11_isSquare : ByteArray := prog_13_method_39_code
def yX11_isSquare : MethodName := ⟨RX11, "isSquare", "([III)Z"⟩
abbrev cX11_isTotal : ByteArray := prog_13_method_40_code
def yX11_isTotal : MethodName := ⟨RX11, "isTotal", "([I)Z"⟩
abbrev cX11_det : ByteArray := prog_13_method_41_code
def yX11_det : MethodName := ⟨RX11, "det", "(II)I"⟩
abbrev cX11_squares : ByteArray := prog_13_method_42_code
def yX11_squares : MethodName := ⟨RX11, "squares", "(II)I"⟩
abbrev cX11_total : ByteArray := prog_13_method_43_code
def yX11_total : MethodName := ⟨RX11, "total", "()I"⟩
abbrev cX11_witness : ByteArray := prog_13_method_44_code
def yX11_witness : MethodName := ⟨RX11, "witness", "(I)I"⟩
abbrev cX11_isHalf : ByteArray := prog_13_method_45_code
def yX11_isHalf : MethodName := ⟨RX11, "isHalf", "(II)Z"⟩
abbrev cX11_halfOf : ByteArray := prog_13_method_46_code
def yX11_halfOf : MethodName := ⟨RX11, "halfOf", "(I)I"⟩
abbrev cX11_halves : ByteArray := prog_13_method_47_code
def yX11_halves : MethodName := ⟨RX11, "halves", "(I)I"⟩
abbrev cX11_unhalved : ByteArray := prog_13_method_48_code
def yX11_unhalved : MethodName := ⟨RX11, "unhalved", "()I"⟩
abbrev cX11_isWay : ByteArray := prog_13_method_49_code
def yX11_isWay : MethodName := ⟨RX11, "isWay", "([IIII)Z"⟩
abbrev cX11_headOf : ByteArray := prog_13_method_50_code
def yX11_headOf : MethodName := ⟨RX11, "headOf", "([IIII)I"⟩
abbrev cX11_tailOf : ByteArray := prog_13_method_51_code
def yX11_tailOf : MethodName := ⟨RX11, "tailOf", "([IIII)I"⟩
abbrev cX11_areWays : ByteArray := prog_13_method_52_code
def yX11_areWays : MethodName := ⟨RX11, "areWays", "([III)Z"⟩
abbrev cX11_endsAt : ByteArray := prog_13_method_53_code
def yX11_endsAt : MethodName := ⟨RX11, "endsAt", "(III)I"⟩
abbrev cX11_bends : ByteArray := prog_13_method_54_code
def yX11_bends : MethodName := ⟨RX11, "bends", "(IIII)V"⟩
abbrev cX11_grows : ByteArray := prog_13_method_55_code
def yX11_grows : MethodName := ⟨RX11, "grows", "([III)Z"⟩
abbrev cX11_laysSide : ByteArray := prog_13_method_56_code
def yX11_laysSide : MethodName := ⟨RX11, "laysSide", "(I)V"⟩
abbrev cX11_hasTree : ByteArray := prog_13_method_57_code
def yX11_hasTree : MethodName := ⟨RX11, "hasTree", "(I)Z"⟩
abbrev cX11_network : ByteArray := prog_13_method_58_code
def yX11_network : MethodName := ⟨RX11, "network", "(I)I"⟩
abbrev cX11_arc : ByteArray := prog_13_method_59_code
def yX11_arc : MethodName := ⟨RX11, "arc", "(III)I"⟩
abbrev cX11_way : ByteArray := prog_13_method_60_code
def yX11_way : MethodName := ⟨RX11, "way", "(III)I"⟩
abbrev cX11_isTold : ByteArray := prog_13_method_61_code
def yX11_isTold : MethodName := ⟨RX11, "isTold", "(II)Z"⟩
abbrev cX11_areTold : ByteArray := prog_13_method_62_code
def yX11_areTold : MethodName := ⟨RX11, "areTold", "(II)Z"⟩
abbrev cX11_signBetween : ByteArray := prog_13_method_63_code
def yX11_signBetween : MethodName := ⟨RX11, "signBetween", "(II)I"⟩
abbrev cX11_laysSteps : ByteArray := prog_13_method_64_code
def yX11_laysSteps : MethodName := ⟨RX11, "laysSteps", "(I)V"⟩
abbrev cX11_laysSigns : ByteArray := prog_13_method_65_code
def yX11_laysSigns : MethodName := ⟨RX11, "laysSigns", "()V"⟩
abbrev cX11_signed : ByteArray := prog_13_method_66_code
def yX11_signed : MethodName := ⟨RX11, "signed", "(II)I"⟩
abbrev cX11_regular : ByteArray := prog_13_method_67_code
def yX11_regular : MethodName := ⟨RX11, "regular", "()I"⟩
abbrev cX11_isScaled : ByteArray := prog_13_method_68_code
def yX11_isScaled : MethodName := ⟨RX11, "isScaled", "([I[I)Z"⟩
abbrev cX11_scaled : ByteArray := prog_13_method_69_code
def yX11_scaled : MethodName := ⟨RX11, "scaled", "(I)I"⟩
abbrev cX11_isLaid : ByteArray := prog_13_method_70_code
def yX11_isLaid : MethodName := ⟨RX11, "isLaid", "()Z"⟩
abbrev cX11_doColumns : ByteArray := prog_13_method_71_code
def yX11_doColumns : MethodName := ⟨RX11, "doColumns", "(II)Z"⟩
abbrev cX11_doRows : ByteArray := prog_13_method_72_code
def yX11_doRows : MethodName := ⟨RX11, "doRows", "(II)Z"⟩
abbrev cX11_special : ByteArray := prog_13_method_73_code
def yX11_special : MethodName := ⟨RX11, "special", "()I"⟩
abbrev cX11_laysParts : ByteArray := prog_13_method_74_code
def yX11_laysParts : MethodName := ⟨RX11, "laysParts", "()V"⟩
abbrev cX11_isThere : ByteArray := prog_13_method_75_code
def yX11_isThere : MethodName := ⟨RX11, "isThere", "(I)Z"⟩
abbrev cX11_block : ByteArray := prog_13_method_76_code
def yX11_block : MethodName := ⟨RX11, "block", "(II)I"⟩
abbrev cX11_rank : ByteArray := prog_13_method_77_code
def yX11_rank : MethodName := ⟨RX11, "rank", "(I)I"⟩
abbrev cX11_bases : ByteArray := prog_13_method_78_code
def yX11_bases : MethodName := ⟨RX11, "bases", "()I"⟩
abbrev cX11_isTotalWith : ByteArray := prog_13_method_79_code
def yX11_isTotalWith : MethodName := ⟨RX11, "isTotalWith", "(II)Z"⟩
abbrev cX11_mends : ByteArray := prog_13_method_80_code
def yX11_mends : MethodName := ⟨RX11, "mends", "()I"⟩
abbrev cX11_fragile : ByteArray := prog_13_method_81_code
def yX11_fragile : MethodName := ⟨RX11, "fragile", "()I"⟩
abbrev cX11_fills : ByteArray := prog_13_method_82_code
def yX11_fills : MethodName := ⟨RX11, "fills", "(II)I"⟩
abbrev cX11_rowsOf : ByteArray := prog_13_method_83_code
def yX11_rowsOf : MethodName := ⟨RX11, "rowsOf", "(I)I"⟩
abbrev cX11_doPack : ByteArray := prog_13_method_84_code
def yX11_doPack : MethodName := ⟨RX11, "doPack", "(I)Z"⟩
abbrev cX11_doCover : ByteArray := prog_13_method_85_code
def yX11_doCover : MethodName := ⟨RX11, "doCover", "(I)Z"⟩
abbrev cX11_pack : ByteArray := prog_13_method_86_code
def yX11_pack : MethodName := ⟨RX11, "pack", "(I)I"⟩
abbrev cX11_adjoint : ByteArray := prog_13_method_87_code
def yX11_adjoint : MethodName := ⟨RX11, "adjoint", "(II)I"⟩
abbrev cX11_cycle : ByteArray := prog_13_method_88_code
def yX11_cycle : MethodName := ⟨RX11, "cycle", "()I"⟩
abbrev cX11_isPlan : ByteArray := prog_13_method_89_code
def yX11_isPlan : MethodName := ⟨RX11, "isPlan", "(I)Z"⟩
abbrev cX11_step : ByteArray := prog_13_method_90_code
def yX11_step : MethodName := ⟨RX11, "step", "(III)I"⟩
abbrev cX11_canStep : ByteArray := prog_13_method_91_code
def yX11_canStep : MethodName := ⟨RX11, "canStep", "([II)Z"⟩
abbrev cX11_doesStep : ByteArray := prog_13_method_92_code
def yX11_doesStep : MethodName := ⟨RX11, "doesStep", "([II)V"⟩
abbrev cX11_run : ByteArray := prog_13_method_93_code
def yX11_run : MethodName := ⟨RX11, "run", "(II)I"⟩
abbrev cX11_perform : ByteArray := prog_13_method_94_code
def yX11_perform : MethodName := ⟨RX11, "perform", "(I)I"⟩
abbrev cX11_draw : ByteArray := prog_13_method_95_code
def yX11_draw : MethodName := ⟨RX11, "draw", "(I)I"⟩
abbrev cX11_draws : ByteArray := prog_13_method_96_code
def yX11_draws : MethodName := ⟨RX11, "draws", "(IJ)I"⟩
abbrev cX11_status : ByteArray := prog_13_method_97_code
def yX11_status : MethodName := ⟨RX11, "status", "(I)I"⟩
abbrev cX11_image : ByteArray := prog_13_method_98_code
def yX11_image : MethodName := ⟨RX11, "image", "()I"⟩
abbrev cX11_back : ByteArray := prog_13_method_99_code
def yX11_back : MethodName := ⟨RX11, "back", "()I"⟩
abbrev cX11_count : ByteArray := prog_13_method_100_code
def yX11_count : MethodName := ⟨RX11, "count", "(I)I"⟩
def RJx145de : String := "java/io/Serializable"
def TJx145de : u_T := fun k => match k with
  | _ => ("", "", "", false)
def tyJx145de : Nat → FieldType := fun k => match k with
  | _ => .int
abbrev wsJx145de0 : List Cond := u_ws RJx145de TJx145de 0
theorem nmJx145de : ∀ a, a < 0 → ∀ b, b < 0 → a ≠ b → (TJx145de a).2.1 ≠ (TJx145de b).2.1 := by decide +kernel
theorem tyJx145de_ok : ∀ k, k < 0 → parseFieldDescriptor (TJx145de k).2.2.1 = some (tyJx145de k) := by decide +kernel
def RJx9f9b0 : String := "java/lang/CharSequence"
def TJx9f9b0 : u_T := fun k => match k with
  | _ => ("", "", "", false)
def tyJx9f9b0 : Nat → FieldType := fun k => match k with
  | _ => .int
abbrev wsJx9f9b00 : List Cond := u_ws RJx9f9b0 TJx9f9b0 0
theorem nmJx9f9b0 : ∀ a, a < 0 → ∀ b, b < 0 → a ≠ b → (TJx9f9b0 a).2.1 ≠ (TJx9f9b0 b).2.1 := by decide +kernel
theorem tyJx9f9b0_ok : ∀ k, k < 0 → parseFieldDescriptor (TJx9f9b0 k).2.2.1 = some (tyJx9f9b0 k) := by decide +kernel
def RJ11 : String := "java/lang/Character"
def TJ11 : u_T := fun k => match k with
  | _ => ("", "", "", false)
def tyJ11 : Nat → FieldType := fun k => match k with
  | _ => .int
abbrev wsJ110 : List Cond := u_ws RJ11 TJ11 0
theorem nmJ11 : ∀ a, a < 0 → ∀ b, b < 0 → a ≠ b → (TJ11 a).2.1 ≠ (TJ11 b).2.1 := by decide +kernel
theorem tyJ11_ok : ∀ k, k < 0 → parseFieldDescriptor (TJ11 k).2.2.1 = some (tyJ11 k) := by decide +kernel
abbrev cJ11_isValidCodePoint_9a6ad : ByteArray := prog_16_method_11_code
def yJ11_isValidCodePoint_9a6ad : MethodName := ⟨RJ11, "isValidCodePoint", "(I)Z"⟩
abbrev cJ11_highSurrogate_5068e : ByteArray := prog_16_method_28_code
def yJ11_highSurrogate_5068e : MethodName := ⟨RJ11, "highSurrogate", "(I)C"⟩
abbrev cJ11_lowSurrogate_5068e : ByteArray := prog_16_method_29_code
def yJ11_lowSurrogate_5068e : MethodName := ⟨RJ11, "lowSurrogate", "(I)C"⟩
def RJxb160c : String := "java/lang/Comparable"
def TJxb160c : u_T := fun k => match k with
  | _ => ("", "", "", false)
def tyJxb160c : Nat → FieldType := fun k => match k with
  | _ => .int
abbrev wsJxb160c0 : List Cond := u_ws RJxb160c TJxb160c 0
theorem nmJxb160c : ∀ a, a < 0 → ∀ b, b < 0 → a ≠ b → (TJxb160c a).2.1 ≠ (TJxb160c b).2.1 := by decide +kernel
theorem tyJxb160c_ok : ∀ k, k < 0 → parseFieldDescriptor (TJxb160c k).2.2.1 = some (tyJxb160c k) := by decide +kernel
def RJ6 : String := "java/lang/Integer"
def TJ6 : u_T := fun k => match k with
  | _ => ("", "", "", false)
def tyJ6 : Nat → FieldType := fun k => match k with
  | _ => .int
abbrev wsJ60 : List Cond := u_ws RJ6 TJ6 0
theorem nmJ6 : ∀ a, a < 0 → ∀ b, b < 0 → a ≠ b → (TJ6 a).2.1 ≠ (TJ6 b).2.1 := by decide +kernel
theorem tyJ6_ok : ∀ k, k < 0 → parseFieldDescriptor (TJ6 k).2.2.1 = some (tyJ6 k) := by decide +kernel
abbrev cJ6_bitCount_0f7a4 : ByteArray := prog_19_method_49_code
def yJ6_bitCount_0f7a4 : MethodName := ⟨RJ6, "bitCount", "(I)I"⟩
def RJ9 : String := "java/lang/Math"
def TJ9 : u_T := fun k => match k with
  | _ => ("", "", "", false)
def tyJ9 : Nat → FieldType := fun k => match k with
  | _ => .int
abbrev wsJ90 : List Cond := u_ws RJ9 TJ9 0
theorem nmJ9 : ∀ a, a < 0 → ∀ b, b < 0 → a ≠ b → (TJ9 a).2.1 ≠ (TJ9 b).2.1 := by decide +kernel
theorem tyJ9_ok : ∀ k, k < 0 → parseFieldDescriptor (TJ9 k).2.2.1 = some (tyJ9 k) := by decide +kernel
abbrev cJ9_abs_0f7a4 : ByteArray := prog_20_method_59_code
def yJ9_abs_0f7a4 : MethodName := ⟨RJ9, "abs", "(I)I"⟩
abbrev cJ9_max_7cf53 : ByteArray := prog_20_method_65_code
def yJ9_max_7cf53 : MethodName := ⟨RJ9, "max", "(II)I"⟩
abbrev cJ9_min_7cf53 : ByteArray := prog_20_method_69_code
def yJ9_min_7cf53 : MethodName := ⟨RJ9, "min", "(II)I"⟩
def RJ0 : String := "java/lang/String"
def TJ0 : u_T := fun k => match k with
  | _ => ("", "", "", false)
def tyJ0 : Nat → FieldType := fun k => match k with
  | _ => .int
abbrev wsJ00 : List Cond := u_ws RJ0 TJ0 0
theorem nmJ0 : ∀ a, a < 0 → ∀ b, b < 0 → a ≠ b → (TJ0 a).2.1 ≠ (TJ0 b).2.1 := by decide +kernel
theorem tyJ0_ok : ∀ k, k < 0 → parseFieldDescriptor (TJ0 k).2.2.1 = some (tyJ0 k) := by decide +kernel
abbrev cJ0_length_8abf5 : ByteArray := prog_22_method_54_code
def yJ0_length_8abf5 : MethodName := ⟨RJ0, "length", "()I"⟩
abbrev cJ0_charAt_5068e : ByteArray := prog_22_method_56_code
def yJ0_charAt_5068e : MethodName := ⟨RJ0, "charAt", "(I)C"⟩
abbrev cJ0_indexOf_0f7a4 : ByteArray := prog_22_method_79_code
def yJ0_indexOf_0f7a4 : MethodName := ⟨RJ0, "indexOf", "(I)I"⟩
abbrev cJ0_indexOf_7cf53 : ByteArray := prog_22_method_80_code
def yJ0_indexOf_7cf53 : MethodName := ⟨RJ0, "indexOf", "(II)I"⟩
abbrev cJ0_coder_7d493 : ByteArray := prog_22_method_152_code
def yJ0_coder_7d493 : MethodName := ⟨RJ0, "coder", "()B"⟩
abbrev cJ0_isLatin1_aae02 : ByteArray := prog_22_method_154_code
def yJ0_isLatin1_aae02 : MethodName := ⟨RJ0, "isLatin1", "()Z"⟩
abbrev cJ0_checkIndex_df160 : ByteArray := prog_22_method_155_code
def yJ0_checkIndex_df160 : MethodName := ⟨RJ0, "checkIndex", "(II)V"⟩
abbrev cJ0_checkBoundsBeginEnd_23922 : ByteArray := prog_22_method_158_code
def yJ0_checkBoundsBeginEnd_23922 : MethodName := ⟨RJ0, "checkBoundsBeginEnd", "(III)V"⟩
def RJ1 : String := "java/lang/StringLatin1"
def TJ1 : u_T := fun k => match k with
  | _ => ("", "", "", false)
def tyJ1 : Nat → FieldType := fun k => match k with
  | _ => .int
abbrev wsJ10 : List Cond := u_ws RJ1 TJ1 0
theorem nmJ1 : ∀ a, a < 0 → ∀ b, b < 0 → a ≠ b → (TJ1 a).2.1 ≠ (TJ1 b).2.1 := by decide +kernel
theorem tyJ1_ok : ∀ k, k < 0 → parseFieldDescriptor (TJ1 k).2.2.1 = some (tyJ1 k) := by decide +kernel
abbrev cJ1_charAt_3b067 : ByteArray := prog_23_method_2_code
def yJ1_charAt_3b067 : MethodName := ⟨RJ1, "charAt", "([BI)C"⟩
abbrev cJ1_canEncode_9a6ad : ByteArray := prog_23_method_4_code
def yJ1_canEncode_9a6ad : MethodName := ⟨RJ1, "canEncode", "(I)Z"⟩
abbrev cJ1_indexOf_4cfef : ByteArray := prog_23_method_22_code
def yJ1_indexOf_4cfef : MethodName := ⟨RJ1, "indexOf", "([BIII)I"⟩
abbrev cJ1_indexOfChar_4cfef : ByteArray := prog_23_method_23_code
def yJ1_indexOfChar_4cfef : MethodName := ⟨RJ1, "indexOfChar", "([BIII)I"⟩
def RJ2 : String := "java/lang/StringUTF16"
def TJ2 : u_T := fun k => match k with
  | _ => ("", "", "", false)
def tyJ2 : Nat → FieldType := fun k => match k with
  | _ => .int
abbrev wsJ20 : List Cond := u_ws RJ2 TJ2 0
theorem nmJ2 : ∀ a, a < 0 → ∀ b, b < 0 → a ≠ b → (TJ2 a).2.1 ≠ (TJ2 b).2.1 := by decide +kernel
theorem tyJ2_ok : ∀ k, k < 0 → parseFieldDescriptor (TJ2 k).2.2.1 = some (tyJ2 k) := by decide +kernel
abbrev cJ2_getChar_3b067 : ByteArray := prog_24_method_5_code
def yJ2_getChar_3b067 : MethodName := ⟨RJ2, "getChar", "([BI)C"⟩
abbrev cJ2_length_9d52b : ByteArray := prog_24_method_6_code
def yJ2_length_9d52b : MethodName := ⟨RJ2, "length", "([B)I"⟩
abbrev cJ2_indexOf_4cfef : ByteArray := prog_24_method_40_code
def yJ2_indexOf_4cfef : MethodName := ⟨RJ2, "indexOf", "([BIII)I"⟩
abbrev cJ2_indexOfChar_4cfef : ByteArray := prog_24_method_47_code
def yJ2_indexOfChar_4cfef : MethodName := ⟨RJ2, "indexOfChar", "([BIII)I"⟩
abbrev cJ2_indexOfCharUnsafe_4cfef : ByteArray := prog_24_method_48_code
def yJ2_indexOfCharUnsafe_4cfef : MethodName := ⟨RJ2, "indexOfCharUnsafe", "([BIII)I"⟩
abbrev cJ2_indexOfSupplementary_4cfef : ByteArray := prog_24_method_49_code
def yJ2_indexOfSupplementary_4cfef : MethodName := ⟨RJ2, "indexOfSupplementary", "([BIII)I"⟩
abbrev cJ2_charAt_3b067 : ByteArray := prog_24_method_83_code
def yJ2_charAt_3b067 : MethodName := ⟨RJ2, "charAt", "([BI)C"⟩
abbrev cJ2_checkIndex_2214a : ByteArray := prog_24_method_91_code
def yJ2_checkIndex_2214a : MethodName := ⟨RJ2, "checkIndex", "(I[B)V"⟩
abbrev cJ2_checkBoundsBeginEnd_d044e : ByteArray := prog_24_method_93_code
def yJ2_checkBoundsBeginEnd_d044e : MethodName := ⟨RJ2, "checkBoundsBeginEnd", "(II[B)V"⟩
def RJ10 : String := "java/lang/System"
def TJ10 : u_T := fun k => match k with
  | _ => ("", "", "", false)
def tyJ10 : Nat → FieldType := fun k => match k with
  | _ => .int
abbrev wsJ100 : List Cond := u_ws RJ10 TJ10 0
theorem nmJ10 : ∀ a, a < 0 → ∀ b, b < 0 → a ≠ b → (TJ10 a).2.1 ≠ (TJ10 b).2.1 := by decide +kernel
theorem tyJ10_ok : ∀ k, k < 0 → parseFieldDescriptor (TJ10 k).2.2.1 = some (tyJ10 k) := by decide +kernel
def RJxfd54e : String := "java/lang/constant/Constable"
def TJxfd54e : u_T := fun k => match k with
  | _ => ("", "", "", false)
def tyJxfd54e : Nat → FieldType := fun k => match k with
  | _ => .int
abbrev wsJxfd54e0 : List Cond := u_ws RJxfd54e TJxfd54e 0
theorem nmJxfd54e : ∀ a, a < 0 → ∀ b, b < 0 → a ≠ b → (TJxfd54e a).2.1 ≠ (TJxfd54e b).2.1 := by decide +kernel
theorem tyJxfd54e_ok : ∀ k, k < 0 → parseFieldDescriptor (TJxfd54e k).2.2.1 = some (tyJxfd54e k) := by decide +kernel
def RJx3cf43 : String := "java/lang/constant/ConstantDesc"
def TJx3cf43 : u_T := fun k => match k with
  | _ => ("", "", "", false)
def tyJx3cf43 : Nat → FieldType := fun k => match k with
  | _ => .int
abbrev wsJx3cf430 : List Cond := u_ws RJx3cf43 TJx3cf43 0
theorem nmJx3cf43 : ∀ a, a < 0 → ∀ b, b < 0 → a ≠ b → (TJx3cf43 a).2.1 ≠ (TJx3cf43 b).2.1 := by decide +kernel
theorem tyJx3cf43_ok : ∀ k, k < 0 → parseFieldDescriptor (TJx3cf43 k).2.2.1 = some (tyJx3cf43 k) := by decide +kernel
def RJ3 : String := "jdk/internal/util/Preconditions"
def TJ3 : u_T := fun k => match k with
  | _ => ("", "", "", false)
def tyJ3 : Nat → FieldType := fun k => match k with
  | _ => .int
abbrev wsJ30 : List Cond := u_ws RJ3 TJ3 0
theorem nmJ3 : ∀ a, a < 0 → ∀ b, b < 0 → a ≠ b → (TJ3 a).2.1 ≠ (TJ3 b).2.1 := by decide +kernel
theorem tyJ3_ok : ∀ k, k < 0 → parseFieldDescriptor (TJ3 k).2.2.1 = some (tyJ3 k) := by decide +kernel
abbrev cJ3_checkIndex_8e157 : ByteArray := prog_30_method_11_code
def yJ3_checkIndex_8e157 : MethodName := ⟨RJ3, "checkIndex", "(IILjava/util/function/BiFunction;)I"⟩
abbrev cJ3_checkFromToIndex_8c36e : ByteArray := prog_30_method_12_code
def yJ3_checkFromToIndex_8c36e : MethodName := ⟨RJ3, "checkFromToIndex", "(IIILjava/util/function/BiFunction;)I"⟩
def RL : String := "UnimodularTablesLaw"
abbrev cL_entry : ByteArray := method_3_code
def yL_entry : MethodName := ⟨RL, "entry", "(LUnimodularTables;II[J)I"⟩
abbrev cL_law : ByteArray := code
def yL_law : MethodName := ⟨RL, "law", "([I)Z"⟩
abbrev vwCl : List vw_C := [(RX0, TX0, 1), (RX1, TX1, 6), (RX2, TX2, 3), (RX3, TX3, 3), (RX4, TX4, 5), (RX5, TX5, 7), (RX6, TX6, 8), (RX7, TX7, 3), (RX8, TX8, 2), (RX9, TX9, 5), (RX10, TX10, 19), (RX11, TX11, 35)]

theorem need_all : True := by
  have := @Stand.thenCaughtThrough
  trivial
/-- the words that a callee may take over, and the nest links -/
def lw_gl : List Cond := lw_tbl.filter goodWord
def is_nest : Cond → Bool
  | .fieldLinkNest _ _ _ _ _ _ => true
  | .methodLinkNest _ _ _ _ => true
  | .arrayOver (.object _) => true
  | .declares _ => true
  | .castable _ _ => true
  | _ => false
def lw_nl : List Cond := lw_tbl.filter is_nest
theorem gm {w : Cond} (n : Nat) (h : lw_tbl[n]? = some w) (hg : goodWord w = true) : w ∈ lw_gl := List.mem_filter.mpr ⟨List.mem_of_getElem? h, hg⟩
theorem nmm {w : Cond} (n : Nat) (h : lw_tbl[n]? = some w) (hg : is_nest w = true) : w ∈ lw_nl := List.mem_filter.mpr ⟨List.mem_of_getElem? h, hg⟩
abbrev mi : Type := MethodName × ByteArray × Nat × Option FieldType
/-- a class's layout, its fields' types and names -/
def CF (C : String) (T : u_T) (N : Nat) : Prop := (∀ w ∈ u_ws C T N, w ∈ lw_gl) ∧ (∃ ty : Nat → FieldType, ∀ k, k < N → parseFieldDescriptor (T k).2.2.1 = some (ty k)) ∧ ∀ a, a < N → ∀ b, b < N → a ≠ b → (T a).2.1 ≠ (T b).2.1
/-- a field's link: own class and pool index; the class by its number, the field by its place, final or not, its type -/
def FL (own : String) (idx ci k : Nat) (fin : Bool) (ty : FieldType) : Prop := ∃ (C : String) (T : u_T) (N : Nat), vwCl[ci]? = some (C, T, N) ∧ CF C T N ∧ k < N ∧ (T k).2.2.2 = fin ∧ parseFieldDescriptor (T k).2.2.1 = some ty ∧
  ((Cond.fieldLink own idx (T k).1 (T k).2.1 (T k).2.2.1 ∈ lw_gl ∧ (T k).1 = own) ∨ ∃ host : String, Cond.fieldLinkNest own idx (T k).1 (T k).2.1 (T k).2.2.1 host ∈ lw_nl)
def MI (m : mi) : Prop := plainName m.1.cls = true ∧ Cond.code m.1 m.2.1 m.2.2.1 m.2.2.2 ∈ lw_gl ∧ Cond.initialized m.1.cls ∈ lw_gl ∧ (m.1.cls ≠ "java/lang/invoke/MethodHandle" ∧ m.1.cls ≠ "java/lang/invoke/VarHandle") ∧ m.2.2.1 ≤ 40
def MV (m : mi) (n : Nat) : Prop := MI m ∧ Cond.instanceMethod m.1 ∈ lw_gl ∧ Cond.selects m.1.cls m.1 m.1 ∈ lw_gl ∧ (parseMethodDescriptor m.1.desc).map (fun d => d.parameters.length) = some n
def MS (m : mi) (n : Nat) : Prop := MI m ∧ Cond.static m.1 ∈ lw_gl ∧ (parseMethodDescriptor m.1.desc).map (fun d => d.parameters.length) = some n
def MN (m : mi) (n : Nat) : Prop := MI m ∧ m.1.name = "<init>" ∧ m.2.2.2 = none ∧ Cond.instanceMethod m.1 ∈ lw_gl ∧ (parseMethodDescriptor m.1.desc).map (fun d => d.parameters.length) = some n
def ML (own : String) (idx : Nat) (m : mi) : Prop := Cond.methodLink own idx m.1 ∈ lw_gl ∨ ∃ host : String, Cond.methodLinkNest own idx m.1 host ∈ lw_nl

