section
-- ===== PART A: goes FIRST, ahead of the names: the tables' words, and 'selects' of the private methods out of them =====
/-- a private method of a class that the tables say can be made, by its rows of tables_1 -/
def lw_okq (q : MethodName × Nat) : Prop := (q.1.cls ≠ "java/lang/invoke/MethodHandle" ∧ q.1.cls ≠ "java/lang/invoke/VarHandle") ∧ Cond.instantiable q.1.cls q.2 ∈ tables_1 ∧ Cond.privateMethod q.1 ∈ tables_1 ∧ Cond.instanceMethod q.1 ∈ tables_1
theorem lw_p0 : lw_okq (⟨"UnimodularTables$Script", "isWhole", "(I)Z"⟩, 5) := ⟨⟨by decide +kernel, by decide +kernel⟩, List.mem_of_getElem? (i := 244) (by decide +kernel), List.mem_of_getElem? (i := 377) (by decide +kernel), List.mem_of_getElem? (i := 378) (by decide +kernel)⟩
theorem lw_p1 : lw_okq (⟨"UnimodularTables$Script", "begins", "(I)Z"⟩, 5) := ⟨⟨by decide +kernel, by decide +kernel⟩, List.mem_of_getElem? (i := 244) (by decide +kernel), List.mem_of_getElem? (i := 383) (by decide +kernel), List.mem_of_getElem? (i := 384) (by decide +kernel)⟩
theorem lw_p2 : lw_okq (⟨"UnimodularTables$Script", "goesOn", "(II)Z"⟩, 5) := ⟨⟨by decide +kernel, by decide +kernel⟩, List.mem_of_getElem? (i := 244) (by decide +kernel), List.mem_of_getElem? (i := 475) (by decide +kernel), List.mem_of_getElem? (i := 476) (by decide +kernel)⟩
theorem lw_p3 : lw_okq (⟨"UnimodularTables", "tableFromTape", "()I"⟩, 19) := ⟨⟨by decide +kernel, by decide +kernel⟩, List.mem_of_getElem? (i := 26) (by decide +kernel), List.mem_of_getElem? (i := 485) (by decide +kernel), List.mem_of_getElem? (i := 486) (by decide +kernel)⟩
theorem lw_p4 : lw_okq (⟨"UnimodularTables", "forget", "()V"⟩, 19) := ⟨⟨by decide +kernel, by decide +kernel⟩, List.mem_of_getElem? (i := 26) (by decide +kernel), List.mem_of_getElem? (i := 500) (by decide +kernel), List.mem_of_getElem? (i := 501) (by decide +kernel)⟩
theorem lw_p5 : lw_okq (⟨"UnimodularTables", "scriptFromTape", "()I"⟩, 19) := ⟨⟨by decide +kernel, by decide +kernel⟩, List.mem_of_getElem? (i := 26) (by decide +kernel), List.mem_of_getElem? (i := 504) (by decide +kernel), List.mem_of_getElem? (i := 505) (by decide +kernel)⟩
theorem lw_p6 : lw_okq (⟨"UnimodularTables", "attempt", "(IIII)I"⟩, 19) := ⟨⟨by decide +kernel, by decide +kernel⟩, List.mem_of_getElem? (i := 26) (by decide +kernel), List.mem_of_getElem? (i := 516) (by decide +kernel), List.mem_of_getElem? (i := 517) (by decide +kernel)⟩
theorem lw_p7 : lw_okq (⟨"UnimodularTables$Table", "negateRow", "(I)I"⟩, 3) := ⟨⟨by decide +kernel, by decide +kernel⟩, List.mem_of_getElem? (i := 51) (by decide +kernel), List.mem_of_getElem? (i := 528) (by decide +kernel), List.mem_of_getElem? (i := 529) (by decide +kernel)⟩
theorem lw_p8 : lw_okq (⟨"UnimodularTables$Table", "onColumns", "(III)I"⟩, 3) := ⟨⟨by decide +kernel, by decide +kernel⟩, List.mem_of_getElem? (i := 51) (by decide +kernel), List.mem_of_getElem? (i := 537) (by decide +kernel), List.mem_of_getElem? (i := 538) (by decide +kernel)⟩
theorem lw_p9 : lw_okq (⟨"UnimodularTables$Table", "changeRows", "(II)I"⟩, 3) := ⟨⟨by decide +kernel, by decide +kernel⟩, List.mem_of_getElem? (i := 51) (by decide +kernel), List.mem_of_getElem? (i := 545) (by decide +kernel), List.mem_of_getElem? (i := 546) (by decide +kernel)⟩
theorem lw_p10 : lw_okq (⟨"UnimodularTables$Table", "dropRow", "(I)I"⟩, 3) := ⟨⟨by decide +kernel, by decide +kernel⟩, List.mem_of_getElem? (i := 51) (by decide +kernel), List.mem_of_getElem? (i := 549) (by decide +kernel), List.mem_of_getElem? (i := 550) (by decide +kernel)⟩
theorem lw_p11 : lw_okq (⟨"UnimodularTables$Table", "turn", "(II)I"⟩, 3) := ⟨⟨by decide +kernel, by decide +kernel⟩, List.mem_of_getElem? (i := 51) (by decide +kernel), List.mem_of_getElem? (i := 553) (by decide +kernel), List.mem_of_getElem? (i := 554) (by decide +kernel)⟩
theorem lw_p12 : lw_okq (⟨"UnimodularTables$Table", "canTurn", "(II)Z"⟩, 3) := ⟨⟨by decide +kernel, by decide +kernel⟩, List.mem_of_getElem? (i := 51) (by decide +kernel), List.mem_of_getElem? (i := 557) (by decide +kernel), List.mem_of_getElem? (i := 558) (by decide +kernel)⟩
theorem lw_p13 : lw_okq (⟨"UnimodularTables$Table", "set", "(III)I"⟩, 3) := ⟨⟨by decide +kernel, by decide +kernel⟩, List.mem_of_getElem? (i := 51) (by decide +kernel), List.mem_of_getElem? (i := 564) (by decide +kernel), List.mem_of_getElem? (i := 565) (by decide +kernel)⟩
theorem lw_p14 : lw_okq (⟨"UnimodularTables", "settle", "(I)I"⟩, 19) := ⟨⟨by decide +kernel, by decide +kernel⟩, List.mem_of_getElem? (i := 26) (by decide +kernel), List.mem_of_getElem? (i := 568) (by decide +kernel), List.mem_of_getElem? (i := 569) (by decide +kernel)⟩
theorem lw_p15 : lw_okq (⟨"UnimodularTables", "refused", "(I)Z"⟩, 19) := ⟨⟨by decide +kernel, by decide +kernel⟩, List.mem_of_getElem? (i := 26) (by decide +kernel), List.mem_of_getElem? (i := 577) (by decide +kernel), List.mem_of_getElem? (i := 578) (by decide +kernel)⟩
def lw_privs_1 : List (MethodName × Nat) := [(⟨"UnimodularTables$Script", "isWhole", "(I)Z"⟩, 5), (⟨"UnimodularTables$Script", "begins", "(I)Z"⟩, 5), (⟨"UnimodularTables$Script", "goesOn", "(II)Z"⟩, 5), (⟨"UnimodularTables", "tableFromTape", "()I"⟩, 19), (⟨"UnimodularTables", "forget", "()V"⟩, 19), (⟨"UnimodularTables", "scriptFromTape", "()I"⟩, 19), (⟨"UnimodularTables", "attempt", "(IIII)I"⟩, 19), (⟨"UnimodularTables$Table", "negateRow", "(I)I"⟩, 3), (⟨"UnimodularTables$Table", "onColumns", "(III)I"⟩, 3), (⟨"UnimodularTables$Table", "changeRows", "(II)I"⟩, 3), (⟨"UnimodularTables$Table", "dropRow", "(I)I"⟩, 3), (⟨"UnimodularTables$Table", "turn", "(II)I"⟩, 3), (⟨"UnimodularTables$Table", "canTurn", "(II)Z"⟩, 3), (⟨"UnimodularTables$Table", "set", "(III)I"⟩, 3), (⟨"UnimodularTables", "settle", "(I)I"⟩, 19), (⟨"UnimodularTables", "refused", "(I)Z"⟩, 19)]
theorem lw_r1 : ∀ q ∈ lw_privs_1, lw_okq q := List.forall_mem_cons.mpr ⟨lw_p0, List.forall_mem_cons.mpr ⟨lw_p1, List.forall_mem_cons.mpr ⟨lw_p2, List.forall_mem_cons.mpr ⟨lw_p3, List.forall_mem_cons.mpr ⟨lw_p4, List.forall_mem_cons.mpr ⟨lw_p5, List.forall_mem_cons.mpr ⟨lw_p6, List.forall_mem_cons.mpr ⟨lw_p7, List.forall_mem_cons.mpr ⟨lw_p8, List.forall_mem_cons.mpr ⟨lw_p9, List.forall_mem_cons.mpr ⟨lw_p10, List.forall_mem_cons.mpr ⟨lw_p11, List.forall_mem_cons.mpr ⟨lw_p12, List.forall_mem_cons.mpr ⟨lw_p13, List.forall_mem_cons.mpr ⟨lw_p14, List.forall_mem_cons.mpr ⟨lw_p15, fun _ h => absurd h List.not_mem_nil⟩⟩⟩⟩⟩⟩⟩⟩⟩⟩⟩⟩⟩⟩⟩⟩
theorem lw_p16 : lw_okq (⟨"UnimodularTables", "isKept", "(I)Z"⟩, 19) := ⟨⟨by decide +kernel, by decide +kernel⟩, List.mem_of_getElem? (i := 26) (by decide +kernel), List.mem_of_getElem? (i := 596) (by decide +kernel), List.mem_of_getElem? (i := 597) (by decide +kernel)⟩
theorem lw_p17 : lw_okq (⟨"UnimodularTables", "attemptSum", "(III)I"⟩, 19) := ⟨⟨by decide +kernel, by decide +kernel⟩, List.mem_of_getElem? (i := 26) (by decide +kernel), List.mem_of_getElem? (i := 605) (by decide +kernel), List.mem_of_getElem? (i := 606) (by decide +kernel)⟩
theorem lw_p18 : lw_okq (⟨"UnimodularTables", "knownMinors", "()LUnimodularTables$Minors;"⟩, 19) := ⟨⟨by decide +kernel, by decide +kernel⟩, List.mem_of_getElem? (i := 26) (by decide +kernel), List.mem_of_getElem? (i := 646) (by decide +kernel), List.mem_of_getElem? (i := 647) (by decide +kernel)⟩
theorem lw_p19 : lw_okq (⟨"UnimodularTables$Minors", "expanded", "(LUnimodularTables$Table;II)I"⟩, 6) := ⟨⟨by decide +kernel, by decide +kernel⟩, List.mem_of_getElem? (i := 101) (by decide +kernel), List.mem_of_getElem? (i := 655) (by decide +kernel), List.mem_of_getElem? (i := 656) (by decide +kernel)⟩
theorem lw_p20 : lw_okq (⟨"UnimodularTables$Minors", "noteBeyond", "(II)V"⟩, 6) := ⟨⟨by decide +kernel, by decide +kernel⟩, List.mem_of_getElem? (i := 101) (by decide +kernel), List.mem_of_getElem? (i := 668) (by decide +kernel), List.mem_of_getElem? (i := 669) (by decide +kernel)⟩
theorem lw_p21 : lw_okq (⟨"UnimodularTables$Table", "halvesAll", "(II)Z"⟩, 3) := ⟨⟨by decide +kernel, by decide +kernel⟩, List.mem_of_getElem? (i := 51) (by decide +kernel), List.mem_of_getElem? (i := 704) (by decide +kernel), List.mem_of_getElem? (i := 705) (by decide +kernel)⟩
theorem lw_p22 : lw_okq (⟨"UnimodularTables", "hasSide", "(I)Z"⟩, 19) := ⟨⟨by decide +kernel, by decide +kernel⟩, List.mem_of_getElem? (i := 26) (by decide +kernel), List.mem_of_getElem? (i := 717) (by decide +kernel), List.mem_of_getElem? (i := 718) (by decide +kernel)⟩
theorem lw_p23 : lw_okq (⟨"UnimodularTables", "knownTree", "(I)LUnimodularTables$Tree;"⟩, 19) := ⟨⟨by decide +kernel, by decide +kernel⟩, List.mem_of_getElem? (i := 26) (by decide +kernel), List.mem_of_getElem? (i := 721) (by decide +kernel), List.mem_of_getElem? (i := 722) (by decide +kernel)⟩
theorem lw_p24 : lw_okq (⟨"UnimodularTables$Tree", "grow", "(I)Z"⟩, 5) := ⟨⟨by decide +kernel, by decide +kernel⟩, List.mem_of_getElem? (i := 128) (by decide +kernel), List.mem_of_getElem? (i := 731) (by decide +kernel), List.mem_of_getElem? (i := 732) (by decide +kernel)⟩
theorem lw_p25 : lw_okq (⟨"UnimodularTables$Tree", "arcsAt", "(II)I"⟩, 5) := ⟨⟨by decide +kernel, by decide +kernel⟩, List.mem_of_getElem? (i := 128) (by decide +kernel), List.mem_of_getElem? (i := 735) (by decide +kernel), List.mem_of_getElem? (i := 736) (by decide +kernel)⟩
theorem lw_p26 : lw_okq (⟨"UnimodularTables$Tree", "growBy", "(IIII)Z"⟩, 5) := ⟨⟨by decide +kernel, by decide +kernel⟩, List.mem_of_getElem? (i := 128) (by decide +kernel), List.mem_of_getElem? (i := 742) (by decide +kernel), List.mem_of_getElem? (i := 743) (by decide +kernel)⟩
theorem lw_p27 : lw_okq (⟨"UnimodularTables$Tree", "moveEnds", "(III)V"⟩, 5) := ⟨⟨by decide +kernel, by decide +kernel⟩, List.mem_of_getElem? (i := 128) (by decide +kernel), List.mem_of_getElem? (i := 746) (by decide +kernel), List.mem_of_getElem? (i := 747) (by decide +kernel)⟩
theorem lw_p28 : lw_okq (⟨"UnimodularTables$Tree", "areWays", "(I)Z"⟩, 5) := ⟨⟨by decide +kernel, by decide +kernel⟩, List.mem_of_getElem? (i := 128) (by decide +kernel), List.mem_of_getElem? (i := 751) (by decide +kernel), List.mem_of_getElem? (i := 752) (by decide +kernel)⟩
theorem lw_p29 : lw_okq (⟨"UnimodularTables$Tree", "starts", "(II)I"⟩, 5) := ⟨⟨by decide +kernel, by decide +kernel⟩, List.mem_of_getElem? (i := 128) (by decide +kernel), List.mem_of_getElem? (i := 755) (by decide +kernel), List.mem_of_getElem? (i := 756) (by decide +kernel)⟩
theorem lw_p30 : lw_okq (⟨"UnimodularTables$Tree", "leaves", "(II)I"⟩, 5) := ⟨⟨by decide +kernel, by decide +kernel⟩, List.mem_of_getElem? (i := 128) (by decide +kernel), List.mem_of_getElem? (i := 760) (by decide +kernel), List.mem_of_getElem? (i := 761) (by decide +kernel)⟩
theorem lw_p31 : lw_okq (⟨"UnimodularTables$Tree", "reaches", "(II)I"⟩, 5) := ⟨⟨by decide +kernel, by decide +kernel⟩, List.mem_of_getElem? (i := 128) (by decide +kernel), List.mem_of_getElem? (i := 764) (by decide +kernel), List.mem_of_getElem? (i := 765) (by decide +kernel)⟩
def lw_privs_2 : List (MethodName × Nat) := [(⟨"UnimodularTables", "isKept", "(I)Z"⟩, 19), (⟨"UnimodularTables", "attemptSum", "(III)I"⟩, 19), (⟨"UnimodularTables", "knownMinors", "()LUnimodularTables$Minors;"⟩, 19), (⟨"UnimodularTables$Minors", "expanded", "(LUnimodularTables$Table;II)I"⟩, 6), (⟨"UnimodularTables$Minors", "noteBeyond", "(II)V"⟩, 6), (⟨"UnimodularTables$Table", "halvesAll", "(II)Z"⟩, 3), (⟨"UnimodularTables", "hasSide", "(I)Z"⟩, 19), (⟨"UnimodularTables", "knownTree", "(I)LUnimodularTables$Tree;"⟩, 19), (⟨"UnimodularTables$Tree", "grow", "(I)Z"⟩, 5), (⟨"UnimodularTables$Tree", "arcsAt", "(II)I"⟩, 5), (⟨"UnimodularTables$Tree", "growBy", "(IIII)Z"⟩, 5), (⟨"UnimodularTables$Tree", "moveEnds", "(III)V"⟩, 5), (⟨"UnimodularTables$Tree", "areWays", "(I)Z"⟩, 5), (⟨"UnimodularTables$Tree", "starts", "(II)I"⟩, 5), (⟨"UnimodularTables$Tree", "leaves", "(II)I"⟩, 5), (⟨"UnimodularTables$Tree", "reaches", "(II)I"⟩, 5)]
theorem lw_r2 : ∀ q ∈ lw_privs_2, lw_okq q := List.forall_mem_cons.mpr ⟨lw_p16, List.forall_mem_cons.mpr ⟨lw_p17, List.forall_mem_cons.mpr ⟨lw_p18, List.forall_mem_cons.mpr ⟨lw_p19, List.forall_mem_cons.mpr ⟨lw_p20, List.forall_mem_cons.mpr ⟨lw_p21, List.forall_mem_cons.mpr ⟨lw_p22, List.forall_mem_cons.mpr ⟨lw_p23, List.forall_mem_cons.mpr ⟨lw_p24, List.forall_mem_cons.mpr ⟨lw_p25, List.forall_mem_cons.mpr ⟨lw_p26, List.forall_mem_cons.mpr ⟨lw_p27, List.forall_mem_cons.mpr ⟨lw_p28, List.forall_mem_cons.mpr ⟨lw_p29, List.forall_mem_cons.mpr ⟨lw_p30, List.forall_mem_cons.mpr ⟨lw_p31, fun _ h => absurd h List.not_mem_nil⟩⟩⟩⟩⟩⟩⟩⟩⟩⟩⟩⟩⟩⟩⟩⟩
theorem lw_p32 : lw_okq (⟨"UnimodularTables$Tree", "arcFrom", "(II)I"⟩, 5) := ⟨⟨by decide +kernel, by decide +kernel⟩, List.mem_of_getElem? (i := 128) (by decide +kernel), List.mem_of_getElem? (i := 785) (by decide +kernel), List.mem_of_getElem? (i := 786) (by decide +kernel)⟩
theorem lw_p33 : lw_okq (⟨"UnimodularTables", "knownSigns", "()LUnimodularTables$Table;"⟩, 19) := ⟨⟨by decide +kernel, by decide +kernel⟩, List.mem_of_getElem? (i := 26) (by decide +kernel), List.mem_of_getElem? (i := 793) (by decide +kernel), List.mem_of_getElem? (i := 794) (by decide +kernel)⟩
theorem lw_p34 : lw_okq (⟨"UnimodularTables$Signing", "signForest", "(LUnimodularTables$Table;)V"⟩, 8) := ⟨⟨by decide +kernel, by decide +kernel⟩, List.mem_of_getElem? (i := 153) (by decide +kernel), List.mem_of_getElem? (i := 802) (by decide +kernel), List.mem_of_getElem? (i := 803) (by decide +kernel)⟩
theorem lw_p35 : lw_okq (⟨"UnimodularTables$Signing", "unite", "(II)V"⟩, 8) := ⟨⟨by decide +kernel, by decide +kernel⟩, List.mem_of_getElem? (i := 153) (by decide +kernel), List.mem_of_getElem? (i := 808) (by decide +kernel), List.mem_of_getElem? (i := 809) (by decide +kernel)⟩
theorem lw_p36 : lw_okq (⟨"UnimodularTables$Signing", "findNext", "(LUnimodularTables$Table;)Z"⟩, 8) := ⟨⟨by decide +kernel, by decide +kernel⟩, List.mem_of_getElem? (i := 153) (by decide +kernel), List.mem_of_getElem? (i := 812) (by decide +kernel), List.mem_of_getElem? (i := 813) (by decide +kernel)⟩
theorem lw_p37 : lw_okq (⟨"UnimodularTables$Signing", "measureFrom", "(I)V"⟩, 8) := ⟨⟨by decide +kernel, by decide +kernel⟩, List.mem_of_getElem? (i := 153) (by decide +kernel), List.mem_of_getElem? (i := 817) (by decide +kernel), List.mem_of_getElem? (i := 818) (by decide +kernel)⟩
theorem lw_p38 : lw_okq (⟨"UnimodularTables$Signing", "reachRows", "(I)V"⟩, 8) := ⟨⟨by decide +kernel, by decide +kernel⟩, List.mem_of_getElem? (i := 153) (by decide +kernel), List.mem_of_getElem? (i := 821) (by decide +kernel), List.mem_of_getElem? (i := 822) (by decide +kernel)⟩
theorem lw_p39 : lw_okq (⟨"UnimodularTables$Signing", "columnToldAt", "(II)I"⟩, 8) := ⟨⟨by decide +kernel, by decide +kernel⟩, List.mem_of_getElem? (i := 153) (by decide +kernel), List.mem_of_getElem? (i := 825) (by decide +kernel), List.mem_of_getElem? (i := 826) (by decide +kernel)⟩
theorem lw_p40 : lw_okq (⟨"UnimodularTables$Signing", "reachColumns", "(I)V"⟩, 8) := ⟨⟨by decide +kernel, by decide +kernel⟩, List.mem_of_getElem? (i := 153) (by decide +kernel), List.mem_of_getElem? (i := 829) (by decide +kernel), List.mem_of_getElem? (i := 830) (by decide +kernel)⟩
theorem lw_p41 : lw_okq (⟨"UnimodularTables$Signing", "rowToldAt", "(II)I"⟩, 8) := ⟨⟨by decide +kernel, by decide +kernel⟩, List.mem_of_getElem? (i := 153) (by decide +kernel), List.mem_of_getElem? (i := 833) (by decide +kernel), List.mem_of_getElem? (i := 834) (by decide +kernel)⟩
theorem lw_p42 : lw_okq (⟨"UnimodularTables$Signing", "sumOfWay", "(I)I"⟩, 8) := ⟨⟨by decide +kernel, by decide +kernel⟩, List.mem_of_getElem? (i := 153) (by decide +kernel), List.mem_of_getElem? (i := 837) (by decide +kernel), List.mem_of_getElem? (i := 838) (by decide +kernel)⟩
theorem lw_p43 : lw_okq (⟨"UnimodularTables", "isTotal", "(LUnimodularTables$Table;)Z"⟩, 19) := ⟨⟨by decide +kernel, by decide +kernel⟩, List.mem_of_getElem? (i := 26) (by decide +kernel), List.mem_of_getElem? (i := 845) (by decide +kernel), List.mem_of_getElem? (i := 846) (by decide +kernel)⟩
theorem lw_p44 : lw_okq (⟨"UnimodularTables$Table", "columnIs", "(LUnimodularTables$Table;III)Z"⟩, 3) := ⟨⟨by decide +kernel, by decide +kernel⟩, List.mem_of_getElem? (i := 51) (by decide +kernel), List.mem_of_getElem? (i := 858) (by decide +kernel), List.mem_of_getElem? (i := 859) (by decide +kernel)⟩
theorem lw_p45 : lw_okq (⟨"UnimodularTables$Pattern", "write", "(Ljava/lang/String;)V"⟩, 3) := ⟨⟨by decide +kernel, by decide +kernel⟩, List.mem_of_getElem? (i := 216) (by decide +kernel), List.mem_of_getElem? (i := 871) (by decide +kernel), List.mem_of_getElem? (i := 872) (by decide +kernel)⟩
theorem lw_p46 : lw_okq (⟨"UnimodularTables$Pattern", "setOrder", "(I)V"⟩, 3) := ⟨⟨by decide +kernel, by decide +kernel⟩, List.mem_of_getElem? (i := 216) (by decide +kernel), List.mem_of_getElem? (i := 904) (by decide +kernel), List.mem_of_getElem? (i := 905) (by decide +kernel)⟩
theorem lw_p47 : lw_okq (⟨"UnimodularTables$Pattern", "moveColumns", "(LUnimodularTables$Table;)Z"⟩, 3) := ⟨⟨by decide +kernel, by decide +kernel⟩, List.mem_of_getElem? (i := 216) (by decide +kernel), List.mem_of_getElem? (i := 912) (by decide +kernel), List.mem_of_getElem? (i := 913) (by decide +kernel)⟩
def lw_privs_3 : List (MethodName × Nat) := [(⟨"UnimodularTables$Tree", "arcFrom", "(II)I"⟩, 5), (⟨"UnimodularTables", "knownSigns", "()LUnimodularTables$Table;"⟩, 19), (⟨"UnimodularTables$Signing", "signForest", "(LUnimodularTables$Table;)V"⟩, 8), (⟨"UnimodularTables$Signing", "unite", "(II)V"⟩, 8), (⟨"UnimodularTables$Signing", "findNext", "(LUnimodularTables$Table;)Z"⟩, 8), (⟨"UnimodularTables$Signing", "measureFrom", "(I)V"⟩, 8), (⟨"UnimodularTables$Signing", "reachRows", "(I)V"⟩, 8), (⟨"UnimodularTables$Signing", "columnToldAt", "(II)I"⟩, 8), (⟨"UnimodularTables$Signing", "reachColumns", "(I)V"⟩, 8), (⟨"UnimodularTables$Signing", "rowToldAt", "(II)I"⟩, 8), (⟨"UnimodularTables$Signing", "sumOfWay", "(I)I"⟩, 8), (⟨"UnimodularTables", "isTotal", "(LUnimodularTables$Table;)Z"⟩, 19), (⟨"UnimodularTables$Table", "columnIs", "(LUnimodularTables$Table;III)Z"⟩, 3), (⟨"UnimodularTables$Pattern", "write", "(Ljava/lang/String;)V"⟩, 3), (⟨"UnimodularTables$Pattern", "setOrder", "(I)V"⟩, 3), (⟨"UnimodularTables$Pattern", "moveColumns", "(LUnimodularTables$Table;)Z"⟩, 3)]
theorem lw_r3 : ∀ q ∈ lw_privs_3, lw_okq q := List.forall_mem_cons.mpr ⟨lw_p32, List.forall_mem_cons.mpr ⟨lw_p33, List.forall_mem_cons.mpr ⟨lw_p34, List.forall_mem_cons.mpr ⟨lw_p35, List.forall_mem_cons.mpr ⟨lw_p36, List.forall_mem_cons.mpr ⟨lw_p37, List.forall_mem_cons.mpr ⟨lw_p38, List.forall_mem_cons.mpr ⟨lw_p39, List.forall_mem_cons.mpr ⟨lw_p40, List.forall_mem_cons.mpr ⟨lw_p41, List.forall_mem_cons.mpr ⟨lw_p42, List.forall_mem_cons.mpr ⟨lw_p43, List.forall_mem_cons.mpr ⟨lw_p44, List.forall_mem_cons.mpr ⟨lw_p45, List.forall_mem_cons.mpr ⟨lw_p46, List.forall_mem_cons.mpr ⟨lw_p47, fun _ h => absurd h List.not_mem_nil⟩⟩⟩⟩⟩⟩⟩⟩⟩⟩⟩⟩⟩⟩⟩⟩
theorem lw_p48 : lw_okq (⟨"UnimodularTables$Pattern", "isAlike", "(LUnimodularTables$Table;II)Z"⟩, 3) := ⟨⟨by decide +kernel, by decide +kernel⟩, List.mem_of_getElem? (i := 216) (by decide +kernel), List.mem_of_getElem? (i := 916) (by decide +kernel), List.mem_of_getElem? (i := 917) (by decide +kernel)⟩
theorem lw_p49 : lw_okq (⟨"UnimodularTables$Shape", "allJoinedTo", "(I)I"⟩, 7) := ⟨⟨by decide +kernel, by decide +kernel⟩, List.mem_of_getElem? (i := 187) (by decide +kernel), List.mem_of_getElem? (i := 937) (by decide +kernel), List.mem_of_getElem? (i := 938) (by decide +kernel)⟩
theorem lw_p50 : lw_okq (⟨"UnimodularTables$Shape", "columnsMetBy", "(I)I"⟩, 7) := ⟨⟨by decide +kernel, by decide +kernel⟩, List.mem_of_getElem? (i := 187) (by decide +kernel), List.mem_of_getElem? (i := 941) (by decide +kernel), List.mem_of_getElem? (i := 942) (by decide +kernel)⟩
theorem lw_p51 : lw_okq (⟨"UnimodularTables$Shape", "rowsMetBy", "(I)I"⟩, 7) := ⟨⟨by decide +kernel, by decide +kernel⟩, List.mem_of_getElem? (i := 187) (by decide +kernel), List.mem_of_getElem? (i := 945) (by decide +kernel), List.mem_of_getElem? (i := 946) (by decide +kernel)⟩
theorem lw_p52 : lw_okq (⟨"UnimodularTables$Shape", "addPart", "(II)V"⟩, 7) := ⟨⟨by decide +kernel, by decide +kernel⟩, List.mem_of_getElem? (i := 187) (by decide +kernel), List.mem_of_getElem? (i := 949) (by decide +kernel), List.mem_of_getElem? (i := 950) (by decide +kernel)⟩
theorem lw_p53 : lw_okq (⟨"UnimodularTables", "firstMend", "()I"⟩, 19) := ⟨⟨by decide +kernel, by decide +kernel⟩, List.mem_of_getElem? (i := 26) (by decide +kernel), List.mem_of_getElem? (i := 978) (by decide +kernel), List.mem_of_getElem? (i := 979) (by decide +kernel)⟩
theorem lw_p54 : lw_okq (⟨"UnimodularTables$Minors", "cofactor", "(IIII)I"⟩, 6) := ⟨⟨by decide +kernel, by decide +kernel⟩, List.mem_of_getElem? (i := 101) (by decide +kernel), List.mem_of_getElem? (i := 986) (by decide +kernel), List.mem_of_getElem? (i := 987) (by decide +kernel)⟩
theorem lw_p55 : lw_okq (⟨"UnimodularTables$Shape", "areApart", "(I)Z"⟩, 7) := ⟨⟨by decide +kernel, by decide +kernel⟩, List.mem_of_getElem? (i := 187) (by decide +kernel), List.mem_of_getElem? (i := 1007) (by decide +kernel), List.mem_of_getElem? (i := 1008) (by decide +kernel)⟩
theorem lw_p56 : lw_okq (⟨"UnimodularTables$Shape", "roundBy", "(II)I"⟩, 7) := ⟨⟨by decide +kernel, by decide +kernel⟩, List.mem_of_getElem? (i := 187) (by decide +kernel), List.mem_of_getElem? (i := 1027) (by decide +kernel), List.mem_of_getElem? (i := 1028) (by decide +kernel)⟩
theorem lw_p57 : lw_okq (⟨"UnimodularTables", "isScript", "(I)Z"⟩, 19) := ⟨⟨by decide +kernel, by decide +kernel⟩, List.mem_of_getElem? (i := 26) (by decide +kernel), List.mem_of_getElem? (i := 1035) (by decide +kernel), List.mem_of_getElem? (i := 1036) (by decide +kernel)⟩
theorem lw_p58 : lw_okq (⟨"UnimodularTables", "attemptDraw", "()I"⟩, 19) := ⟨⟨by decide +kernel, by decide +kernel⟩, List.mem_of_getElem? (i := 26) (by decide +kernel), List.mem_of_getElem? (i := 1055) (by decide +kernel), List.mem_of_getElem? (i := 1056) (by decide +kernel)⟩
theorem lw_p59 : lw_okq (⟨"java/lang/Throwable", "fillInStackTrace", "(I)Ljava/lang/Throwable;"⟩, 6) := ⟨⟨by decide +kernel, by decide +kernel⟩, List.mem_of_getElem? (i := 1126) (by decide +kernel), List.mem_of_getElem? (i := 1124) (by decide +kernel), List.mem_of_getElem? (i := 1125) (by decide +kernel)⟩
theorem lw_p60 : lw_okq (⟨"UnimodularTablesModel", "brings", "(I)V"⟩, 35) := ⟨⟨by decide +kernel, by decide +kernel⟩, List.mem_of_getElem? (i := 1151) (by decide +kernel), List.mem_of_getElem? (i := 1274) (by decide +kernel), List.mem_of_getElem? (i := 1275) (by decide +kernel)⟩
theorem lw_p61 : lw_okq (⟨"UnimodularTablesModel", "readTable", "()V"⟩, 35) := ⟨⟨by decide +kernel, by decide +kernel⟩, List.mem_of_getElem? (i := 1151) (by decide +kernel), List.mem_of_getElem? (i := 1289) (by decide +kernel), List.mem_of_getElem? (i := 1290) (by decide +kernel)⟩
theorem lw_p62 : lw_okq (⟨"UnimodularTablesModel", "readRow", "()V"⟩, 35) := ⟨⟨by decide +kernel, by decide +kernel⟩, List.mem_of_getElem? (i := 1151) (by decide +kernel), List.mem_of_getElem? (i := 1293) (by decide +kernel), List.mem_of_getElem? (i := 1294) (by decide +kernel)⟩
theorem lw_p63 : lw_okq (⟨"UnimodularTablesModel", "look", "()I"⟩, 35) := ⟨⟨by decide +kernel, by decide +kernel⟩, List.mem_of_getElem? (i := 1151) (by decide +kernel), List.mem_of_getElem? (i := 1298) (by decide +kernel), List.mem_of_getElem? (i := 1299) (by decide +kernel)⟩
def lw_privs_4 : List (MethodName × Nat) := [(⟨"UnimodularTables$Pattern", "isAlike", "(LUnimodularTables$Table;II)Z"⟩, 3), (⟨"UnimodularTables$Shape", "allJoinedTo", "(I)I"⟩, 7), (⟨"UnimodularTables$Shape", "columnsMetBy", "(I)I"⟩, 7), (⟨"UnimodularTables$Shape", "rowsMetBy", "(I)I"⟩, 7), (⟨"UnimodularTables$Shape", "addPart", "(II)V"⟩, 7), (⟨"UnimodularTables", "firstMend", "()I"⟩, 19), (⟨"UnimodularTables$Minors", "cofactor", "(IIII)I"⟩, 6), (⟨"UnimodularTables$Shape", "areApart", "(I)Z"⟩, 7), (⟨"UnimodularTables$Shape", "roundBy", "(II)I"⟩, 7), (⟨"UnimodularTables", "isScript", "(I)Z"⟩, 19), (⟨"UnimodularTables", "attemptDraw", "()I"⟩, 19), (⟨"java/lang/Throwable", "fillInStackTrace", "(I)Ljava/lang/Throwable;"⟩, 6), (⟨"UnimodularTablesModel", "brings", "(I)V"⟩, 35), (⟨"UnimodularTablesModel", "readTable", "()V"⟩, 35), (⟨"UnimodularTablesModel", "readRow", "()V"⟩, 35), (⟨"UnimodularTablesModel", "look", "()I"⟩, 35)]
theorem lw_r4 : ∀ q ∈ lw_privs_4, lw_okq q := List.forall_mem_cons.mpr ⟨lw_p48, List.forall_mem_cons.mpr ⟨lw_p49, List.forall_mem_cons.mpr ⟨lw_p50, List.forall_mem_cons.mpr ⟨lw_p51, List.forall_mem_cons.mpr ⟨lw_p52, List.forall_mem_cons.mpr ⟨lw_p53, List.forall_mem_cons.mpr ⟨lw_p54, List.forall_mem_cons.mpr ⟨lw_p55, List.forall_mem_cons.mpr ⟨lw_p56, List.forall_mem_cons.mpr ⟨lw_p57, List.forall_mem_cons.mpr ⟨lw_p58, List.forall_mem_cons.mpr ⟨lw_p59, List.forall_mem_cons.mpr ⟨lw_p60, List.forall_mem_cons.mpr ⟨lw_p61, List.forall_mem_cons.mpr ⟨lw_p62, List.forall_mem_cons.mpr ⟨lw_p63, fun _ h => absurd h List.not_mem_nil⟩⟩⟩⟩⟩⟩⟩⟩⟩⟩⟩⟩⟩⟩⟩⟩
theorem lw_p64 : lw_okq (⟨"UnimodularTablesModel", "here", "()I"⟩, 35) := ⟨⟨by decide +kernel, by decide +kernel⟩, List.mem_of_getElem? (i := 1151) (by decide +kernel), List.mem_of_getElem? (i := 1302) (by decide +kernel), List.mem_of_getElem? (i := 1303) (by decide +kernel)⟩
theorem lw_p65 : lw_okq (⟨"UnimodularTablesModel", "fails", "()V"⟩, 35) := ⟨⟨by decide +kernel, by decide +kernel⟩, List.mem_of_getElem? (i := 1151) (by decide +kernel), List.mem_of_getElem? (i := 1311) (by decide +kernel), List.mem_of_getElem? (i := 1312) (by decide +kernel)⟩
theorem lw_p66 : lw_okq (⟨"UnimodularTablesModel", "readPlan", "()V"⟩, 35) := ⟨⟨by decide +kernel, by decide +kernel⟩, List.mem_of_getElem? (i := 1151) (by decide +kernel), List.mem_of_getElem? (i := 1315) (by decide +kernel), List.mem_of_getElem? (i := 1316) (by decide +kernel)⟩
theorem lw_p67 : lw_okq (⟨"UnimodularTablesModel", "readStep", "(I)V"⟩, 35) := ⟨⟨by decide +kernel, by decide +kernel⟩, List.mem_of_getElem? (i := 1151) (by decide +kernel), List.mem_of_getElem? (i := 1319) (by decide +kernel), List.mem_of_getElem? (i := 1320) (by decide +kernel)⟩
theorem lw_p68 : lw_okq (⟨"UnimodularTablesModel", "digit", "()I"⟩, 35) := ⟨⟨by decide +kernel, by decide +kernel⟩, List.mem_of_getElem? (i := 1151) (by decide +kernel), List.mem_of_getElem? (i := 1325) (by decide +kernel), List.mem_of_getElem? (i := 1326) (by decide +kernel)⟩
theorem lw_p69 : lw_okq (⟨"UnimodularTablesModel", "isCell", "([III)Z"⟩, 35) := ⟨⟨by decide +kernel, by decide +kernel⟩, List.mem_of_getElem? (i := 1151) (by decide +kernel), List.mem_of_getElem? (i := 1338) (by decide +kernel), List.mem_of_getElem? (i := 1339) (by decide +kernel)⟩
theorem lw_p70 : lw_okq (⟨"UnimodularTablesModel", "refused", "(I)I"⟩, 35) := ⟨⟨by decide +kernel, by decide +kernel⟩, List.mem_of_getElem? (i := 1151) (by decide +kernel), List.mem_of_getElem? (i := 1347) (by decide +kernel), List.mem_of_getElem? (i := 1348) (by decide +kernel)⟩
theorem lw_p71 : lw_okq (⟨"UnimodularTablesModel", "remember", "()V"⟩, 35) := ⟨⟨by decide +kernel, by decide +kernel⟩, List.mem_of_getElem? (i := 1151) (by decide +kernel), List.mem_of_getElem? (i := 1351) (by decide +kernel), List.mem_of_getElem? (i := 1352) (by decide +kernel)⟩
theorem lw_p72 : lw_okq (⟨"UnimodularTablesModel", "stops", "([IIII)I"⟩, 35) := ⟨⟨by decide +kernel, by decide +kernel⟩, List.mem_of_getElem? (i := 1151) (by decide +kernel), List.mem_of_getElem? (i := 1359) (by decide +kernel), List.mem_of_getElem? (i := 1360) (by decide +kernel)⟩
theorem lw_p73 : lw_okq (⟨"UnimodularTablesModel", "canTurn", "([III)Z"⟩, 35) := ⟨⟨by decide +kernel, by decide +kernel⟩, List.mem_of_getElem? (i := 1151) (by decide +kernel), List.mem_of_getElem? (i := 1363) (by decide +kernel), List.mem_of_getElem? (i := 1364) (by decide +kernel)⟩
theorem lw_p74 : lw_okq (⟨"UnimodularTablesModel", "does", "([IIII)V"⟩, 35) := ⟨⟨by decide +kernel, by decide +kernel⟩, List.mem_of_getElem? (i := 1151) (by decide +kernel), List.mem_of_getElem? (i := 1370) (by decide +kernel), List.mem_of_getElem? (i := 1371) (by decide +kernel)⟩
theorem lw_p75 : lw_okq (⟨"UnimodularTablesModel", "isKept", "(I)Z"⟩, 35) := ⟨⟨by decide +kernel, by decide +kernel⟩, List.mem_of_getElem? (i := 1151) (by decide +kernel), List.mem_of_getElem? (i := 1385) (by decide +kernel), List.mem_of_getElem? (i := 1386) (by decide +kernel)⟩
theorem lw_p76 : lw_okq (⟨"UnimodularTablesModel", "keptAt", "(III)I"⟩, 35) := ⟨⟨by decide +kernel, by decide +kernel⟩, List.mem_of_getElem? (i := 1151) (by decide +kernel), List.mem_of_getElem? (i := 1389) (by decide +kernel), List.mem_of_getElem? (i := 1390) (by decide +kernel)⟩
theorem lw_p77 : lw_okq (⟨"UnimodularTablesModel", "isSquare", "([III)Z"⟩, 35) := ⟨⟨by decide +kernel, by decide +kernel⟩, List.mem_of_getElem? (i := 1151) (by decide +kernel), List.mem_of_getElem? (i := 1405) (by decide +kernel), List.mem_of_getElem? (i := 1406) (by decide +kernel)⟩
theorem lw_p78 : lw_okq (⟨"UnimodularTablesModel", "laysDets", "([I)V"⟩, 35) := ⟨⟨by decide +kernel, by decide +kernel⟩, List.mem_of_getElem? (i := 1151) (by decide +kernel), List.mem_of_getElem? (i := 1412) (by decide +kernel), List.mem_of_getElem? (i := 1413) (by decide +kernel)⟩
theorem lw_p79 : lw_okq (⟨"UnimodularTablesModel", "isTotal", "([I)Z"⟩, 35) := ⟨⟨by decide +kernel, by decide +kernel⟩, List.mem_of_getElem? (i := 1151) (by decide +kernel), List.mem_of_getElem? (i := 1433) (by decide +kernel), List.mem_of_getElem? (i := 1434) (by decide +kernel)⟩
def lw_privs_5 : List (MethodName × Nat) := [(⟨"UnimodularTablesModel", "here", "()I"⟩, 35), (⟨"UnimodularTablesModel", "fails", "()V"⟩, 35), (⟨"UnimodularTablesModel", "readPlan", "()V"⟩, 35), (⟨"UnimodularTablesModel", "readStep", "(I)V"⟩, 35), (⟨"UnimodularTablesModel", "digit", "()I"⟩, 35), (⟨"UnimodularTablesModel", "isCell", "([III)Z"⟩, 35), (⟨"UnimodularTablesModel", "refused", "(I)I"⟩, 35), (⟨"UnimodularTablesModel", "remember", "()V"⟩, 35), (⟨"UnimodularTablesModel", "stops", "([IIII)I"⟩, 35), (⟨"UnimodularTablesModel", "canTurn", "([III)Z"⟩, 35), (⟨"UnimodularTablesModel", "does", "([IIII)V"⟩, 35), (⟨"UnimodularTablesModel", "isKept", "(I)Z"⟩, 35), (⟨"UnimodularTablesModel", "keptAt", "(III)I"⟩, 35), (⟨"UnimodularTablesModel", "isSquare", "([III)Z"⟩, 35), (⟨"UnimodularTablesModel", "laysDets", "([I)V"⟩, 35), (⟨"UnimodularTablesModel", "isTotal", "([I)Z"⟩, 35)]
theorem lw_r5 : ∀ q ∈ lw_privs_5, lw_okq q := List.forall_mem_cons.mpr ⟨lw_p64, List.forall_mem_cons.mpr ⟨lw_p65, List.forall_mem_cons.mpr ⟨lw_p66, List.forall_mem_cons.mpr ⟨lw_p67, List.forall_mem_cons.mpr ⟨lw_p68, List.forall_mem_cons.mpr ⟨lw_p69, List.forall_mem_cons.mpr ⟨lw_p70, List.forall_mem_cons.mpr ⟨lw_p71, List.forall_mem_cons.mpr ⟨lw_p72, List.forall_mem_cons.mpr ⟨lw_p73, List.forall_mem_cons.mpr ⟨lw_p74, List.forall_mem_cons.mpr ⟨lw_p75, List.forall_mem_cons.mpr ⟨lw_p76, List.forall_mem_cons.mpr ⟨lw_p77, List.forall_mem_cons.mpr ⟨lw_p78, List.forall_mem_cons.mpr ⟨lw_p79, fun _ h => absurd h List.not_mem_nil⟩⟩⟩⟩⟩⟩⟩⟩⟩⟩⟩⟩⟩⟩⟩⟩
theorem lw_p80 : lw_okq (⟨"UnimodularTablesModel", "halfOf", "(I)I"⟩, 35) := ⟨⟨by decide +kernel, by decide +kernel⟩, List.mem_of_getElem? (i := 1151) (by decide +kernel), List.mem_of_getElem? (i := 1446) (by decide +kernel), List.mem_of_getElem? (i := 1447) (by decide +kernel)⟩
theorem lw_p81 : lw_okq (⟨"UnimodularTablesModel", "isHalf", "(II)Z"⟩, 35) := ⟨⟨by decide +kernel, by decide +kernel⟩, List.mem_of_getElem? (i := 1151) (by decide +kernel), List.mem_of_getElem? (i := 1450) (by decide +kernel), List.mem_of_getElem? (i := 1451) (by decide +kernel)⟩
theorem lw_p82 : lw_okq (⟨"UnimodularTablesModel", "hasTree", "(I)Z"⟩, 35) := ⟨⟨by decide +kernel, by decide +kernel⟩, List.mem_of_getElem? (i := 1151) (by decide +kernel), List.mem_of_getElem? (i := 1462) (by decide +kernel), List.mem_of_getElem? (i := 1463) (by decide +kernel)⟩
theorem lw_p83 : lw_okq (⟨"UnimodularTablesModel", "laysSide", "(I)V"⟩, 35) := ⟨⟨by decide +kernel, by decide +kernel⟩, List.mem_of_getElem? (i := 1151) (by decide +kernel), List.mem_of_getElem? (i := 1466) (by decide +kernel), List.mem_of_getElem? (i := 1467) (by decide +kernel)⟩
theorem lw_p84 : lw_okq (⟨"UnimodularTablesModel", "grows", "([III)Z"⟩, 35) := ⟨⟨by decide +kernel, by decide +kernel⟩, List.mem_of_getElem? (i := 1151) (by decide +kernel), List.mem_of_getElem? (i := 1470) (by decide +kernel), List.mem_of_getElem? (i := 1471) (by decide +kernel)⟩
theorem lw_p85 : lw_okq (⟨"UnimodularTablesModel", "endsAt", "(III)I"⟩, 35) := ⟨⟨by decide +kernel, by decide +kernel⟩, List.mem_of_getElem? (i := 1151) (by decide +kernel), List.mem_of_getElem? (i := 1474) (by decide +kernel), List.mem_of_getElem? (i := 1475) (by decide +kernel)⟩
theorem lw_p86 : lw_okq (⟨"UnimodularTablesModel", "bends", "(IIII)V"⟩, 35) := ⟨⟨by decide +kernel, by decide +kernel⟩, List.mem_of_getElem? (i := 1151) (by decide +kernel), List.mem_of_getElem? (i := 1478) (by decide +kernel), List.mem_of_getElem? (i := 1479) (by decide +kernel)⟩
theorem lw_p87 : lw_okq (⟨"UnimodularTablesModel", "areWays", "([III)Z"⟩, 35) := ⟨⟨by decide +kernel, by decide +kernel⟩, List.mem_of_getElem? (i := 1151) (by decide +kernel), List.mem_of_getElem? (i := 1482) (by decide +kernel), List.mem_of_getElem? (i := 1483) (by decide +kernel)⟩
theorem lw_p88 : lw_okq (⟨"UnimodularTablesModel", "isWay", "([IIII)Z"⟩, 35) := ⟨⟨by decide +kernel, by decide +kernel⟩, List.mem_of_getElem? (i := 1151) (by decide +kernel), List.mem_of_getElem? (i := 1486) (by decide +kernel), List.mem_of_getElem? (i := 1487) (by decide +kernel)⟩
theorem lw_p89 : lw_okq (⟨"UnimodularTablesModel", "headOf", "([IIII)I"⟩, 35) := ⟨⟨by decide +kernel, by decide +kernel⟩, List.mem_of_getElem? (i := 1151) (by decide +kernel), List.mem_of_getElem? (i := 1490) (by decide +kernel), List.mem_of_getElem? (i := 1491) (by decide +kernel)⟩
theorem lw_p90 : lw_okq (⟨"UnimodularTablesModel", "tailOf", "([IIII)I"⟩, 35) := ⟨⟨by decide +kernel, by decide +kernel⟩, List.mem_of_getElem? (i := 1151) (by decide +kernel), List.mem_of_getElem? (i := 1494) (by decide +kernel), List.mem_of_getElem? (i := 1495) (by decide +kernel)⟩
theorem lw_p91 : lw_okq (⟨"UnimodularTablesModel", "laysSigns", "()V"⟩, 35) := ⟨⟨by decide +kernel, by decide +kernel⟩, List.mem_of_getElem? (i := 1151) (by decide +kernel), List.mem_of_getElem? (i := 1510) (by decide +kernel), List.mem_of_getElem? (i := 1511) (by decide +kernel)⟩
theorem lw_p92 : lw_okq (⟨"UnimodularTablesModel", "laysSteps", "(I)V"⟩, 35) := ⟨⟨by decide +kernel, by decide +kernel⟩, List.mem_of_getElem? (i := 1151) (by decide +kernel), List.mem_of_getElem? (i := 1514) (by decide +kernel), List.mem_of_getElem? (i := 1515) (by decide +kernel)⟩
theorem lw_p93 : lw_okq (⟨"UnimodularTablesModel", "areTold", "(II)Z"⟩, 35) := ⟨⟨by decide +kernel, by decide +kernel⟩, List.mem_of_getElem? (i := 1151) (by decide +kernel), List.mem_of_getElem? (i := 1518) (by decide +kernel), List.mem_of_getElem? (i := 1519) (by decide +kernel)⟩
theorem lw_p94 : lw_okq (⟨"UnimodularTablesModel", "isTold", "(II)Z"⟩, 35) := ⟨⟨by decide +kernel, by decide +kernel⟩, List.mem_of_getElem? (i := 1151) (by decide +kernel), List.mem_of_getElem? (i := 1522) (by decide +kernel), List.mem_of_getElem? (i := 1523) (by decide +kernel)⟩
theorem lw_p95 : lw_okq (⟨"UnimodularTablesModel", "signBetween", "(II)I"⟩, 35) := ⟨⟨by decide +kernel, by decide +kernel⟩, List.mem_of_getElem? (i := 1151) (by decide +kernel), List.mem_of_getElem? (i := 1526) (by decide +kernel), List.mem_of_getElem? (i := 1527) (by decide +kernel)⟩
def lw_privs_6 : List (MethodName × Nat) := [(⟨"UnimodularTablesModel", "halfOf", "(I)I"⟩, 35), (⟨"UnimodularTablesModel", "isHalf", "(II)Z"⟩, 35), (⟨"UnimodularTablesModel", "hasTree", "(I)Z"⟩, 35), (⟨"UnimodularTablesModel", "laysSide", "(I)V"⟩, 35), (⟨"UnimodularTablesModel", "grows", "([III)Z"⟩, 35), (⟨"UnimodularTablesModel", "endsAt", "(III)I"⟩, 35), (⟨"UnimodularTablesModel", "bends", "(IIII)V"⟩, 35), (⟨"UnimodularTablesModel", "areWays", "([III)Z"⟩, 35), (⟨"UnimodularTablesModel", "isWay", "([IIII)Z"⟩, 35), (⟨"UnimodularTablesModel", "headOf", "([IIII)I"⟩, 35), (⟨"UnimodularTablesModel", "tailOf", "([IIII)I"⟩, 35), (⟨"UnimodularTablesModel", "laysSigns", "()V"⟩, 35), (⟨"UnimodularTablesModel", "laysSteps", "(I)V"⟩, 35), (⟨"UnimodularTablesModel", "areTold", "(II)Z"⟩, 35), (⟨"UnimodularTablesModel", "isTold", "(II)Z"⟩, 35), (⟨"UnimodularTablesModel", "signBetween", "(II)I"⟩, 35)]
theorem lw_r6 : ∀ q ∈ lw_privs_6, lw_okq q := List.forall_mem_cons.mpr ⟨lw_p80, List.forall_mem_cons.mpr ⟨lw_p81, List.forall_mem_cons.mpr ⟨lw_p82, List.forall_mem_cons.mpr ⟨lw_p83, List.forall_mem_cons.mpr ⟨lw_p84, List.forall_mem_cons.mpr ⟨lw_p85, List.forall_mem_cons.mpr ⟨lw_p86, List.forall_mem_cons.mpr ⟨lw_p87, List.forall_mem_cons.mpr ⟨lw_p88, List.forall_mem_cons.mpr ⟨lw_p89, List.forall_mem_cons.mpr ⟨lw_p90, List.forall_mem_cons.mpr ⟨lw_p91, List.forall_mem_cons.mpr ⟨lw_p92, List.forall_mem_cons.mpr ⟨lw_p93, List.forall_mem_cons.mpr ⟨lw_p94, List.forall_mem_cons.mpr ⟨lw_p95, fun _ h => absurd h List.not_mem_nil⟩⟩⟩⟩⟩⟩⟩⟩⟩⟩⟩⟩⟩⟩⟩⟩
theorem lw_p96 : lw_okq (⟨"UnimodularTablesModel", "isScaled", "([I[I)Z"⟩, 35) := ⟨⟨by decide +kernel, by decide +kernel⟩, List.mem_of_getElem? (i := 1151) (by decide +kernel), List.mem_of_getElem? (i := 1538) (by decide +kernel), List.mem_of_getElem? (i := 1539) (by decide +kernel)⟩
theorem lw_p97 : lw_okq (⟨"UnimodularTablesModel", "doRows", "(II)Z"⟩, 35) := ⟨⟨by decide +kernel, by decide +kernel⟩, List.mem_of_getElem? (i := 1151) (by decide +kernel), List.mem_of_getElem? (i := 1548) (by decide +kernel), List.mem_of_getElem? (i := 1549) (by decide +kernel)⟩
theorem lw_p98 : lw_okq (⟨"UnimodularTablesModel", "doColumns", "(II)Z"⟩, 35) := ⟨⟨by decide +kernel, by decide +kernel⟩, List.mem_of_getElem? (i := 1151) (by decide +kernel), List.mem_of_getElem? (i := 1552) (by decide +kernel), List.mem_of_getElem? (i := 1553) (by decide +kernel)⟩
theorem lw_p99 : lw_okq (⟨"UnimodularTablesModel", "isLaid", "()Z"⟩, 35) := ⟨⟨by decide +kernel, by decide +kernel⟩, List.mem_of_getElem? (i := 1151) (by decide +kernel), List.mem_of_getElem? (i := 1556) (by decide +kernel), List.mem_of_getElem? (i := 1557) (by decide +kernel)⟩
theorem lw_p100 : lw_okq (⟨"UnimodularTablesModel", "laysParts", "()V"⟩, 35) := ⟨⟨by decide +kernel, by decide +kernel⟩, List.mem_of_getElem? (i := 1151) (by decide +kernel), List.mem_of_getElem? (i := 1564) (by decide +kernel), List.mem_of_getElem? (i := 1565) (by decide +kernel)⟩
theorem lw_p101 : lw_okq (⟨"UnimodularTablesModel", "isThere", "(I)Z"⟩, 35) := ⟨⟨by decide +kernel, by decide +kernel⟩, List.mem_of_getElem? (i := 1151) (by decide +kernel), List.mem_of_getElem? (i := 1569) (by decide +kernel), List.mem_of_getElem? (i := 1570) (by decide +kernel)⟩
theorem lw_p102 : lw_okq (⟨"UnimodularTablesModel", "isTotalWith", "(II)Z"⟩, 35) := ⟨⟨by decide +kernel, by decide +kernel⟩, List.mem_of_getElem? (i := 1151) (by decide +kernel), List.mem_of_getElem? (i := 1585) (by decide +kernel), List.mem_of_getElem? (i := 1586) (by decide +kernel)⟩
theorem lw_p103 : lw_okq (⟨"UnimodularTablesModel", "doPack", "(I)Z"⟩, 35) := ⟨⟨by decide +kernel, by decide +kernel⟩, List.mem_of_getElem? (i := 1151) (by decide +kernel), List.mem_of_getElem? (i := 1601) (by decide +kernel), List.mem_of_getElem? (i := 1602) (by decide +kernel)⟩
theorem lw_p104 : lw_okq (⟨"UnimodularTablesModel", "rowsOf", "(I)I"⟩, 35) := ⟨⟨by decide +kernel, by decide +kernel⟩, List.mem_of_getElem? (i := 1151) (by decide +kernel), List.mem_of_getElem? (i := 1605) (by decide +kernel), List.mem_of_getElem? (i := 1606) (by decide +kernel)⟩
theorem lw_p105 : lw_okq (⟨"UnimodularTablesModel", "doCover", "(I)Z"⟩, 35) := ⟨⟨by decide +kernel, by decide +kernel⟩, List.mem_of_getElem? (i := 1151) (by decide +kernel), List.mem_of_getElem? (i := 1609) (by decide +kernel), List.mem_of_getElem? (i := 1610) (by decide +kernel)⟩
theorem lw_p106 : lw_okq (⟨"UnimodularTablesModel", "isPlan", "(I)Z"⟩, 35) := ⟨⟨by decide +kernel, by decide +kernel⟩, List.mem_of_getElem? (i := 1151) (by decide +kernel), List.mem_of_getElem? (i := 1625) (by decide +kernel), List.mem_of_getElem? (i := 1626) (by decide +kernel)⟩
theorem lw_p107 : lw_okq (⟨"UnimodularTablesModel", "canStep", "([II)Z"⟩, 35) := ⟨⟨by decide +kernel, by decide +kernel⟩, List.mem_of_getElem? (i := 1151) (by decide +kernel), List.mem_of_getElem? (i := 1633) (by decide +kernel), List.mem_of_getElem? (i := 1634) (by decide +kernel)⟩
theorem lw_p108 : lw_okq (⟨"UnimodularTablesModel", "doesStep", "([II)V"⟩, 35) := ⟨⟨by decide +kernel, by decide +kernel⟩, List.mem_of_getElem? (i := 1151) (by decide +kernel), List.mem_of_getElem? (i := 1637) (by decide +kernel), List.mem_of_getElem? (i := 1638) (by decide +kernel)⟩
theorem lw_p109 : lw_okq (⟨"UnimodularTablesModel", "draw", "(I)I"⟩, 35) := ⟨⟨by decide +kernel, by decide +kernel⟩, List.mem_of_getElem? (i := 1151) (by decide +kernel), List.mem_of_getElem? (i := 1650) (by decide +kernel), List.mem_of_getElem? (i := 1651) (by decide +kernel)⟩
def lw_privs_7 : List (MethodName × Nat) := [(⟨"UnimodularTablesModel", "isScaled", "([I[I)Z"⟩, 35), (⟨"UnimodularTablesModel", "doRows", "(II)Z"⟩, 35), (⟨"UnimodularTablesModel", "doColumns", "(II)Z"⟩, 35), (⟨"UnimodularTablesModel", "isLaid", "()Z"⟩, 35), (⟨"UnimodularTablesModel", "laysParts", "()V"⟩, 35), (⟨"UnimodularTablesModel", "isThere", "(I)Z"⟩, 35), (⟨"UnimodularTablesModel", "isTotalWith", "(II)Z"⟩, 35), (⟨"UnimodularTablesModel", "doPack", "(I)Z"⟩, 35), (⟨"UnimodularTablesModel", "rowsOf", "(I)I"⟩, 35), (⟨"UnimodularTablesModel", "doCover", "(I)Z"⟩, 35), (⟨"UnimodularTablesModel", "isPlan", "(I)Z"⟩, 35), (⟨"UnimodularTablesModel", "canStep", "([II)Z"⟩, 35), (⟨"UnimodularTablesModel", "doesStep", "([II)V"⟩, 35), (⟨"UnimodularTablesModel", "draw", "(I)I"⟩, 35)]
theorem lw_r7 : ∀ q ∈ lw_privs_7, lw_okq q := List.forall_mem_cons.mpr ⟨lw_p96, List.forall_mem_cons.mpr ⟨lw_p97, List.forall_mem_cons.mpr ⟨lw_p98, List.forall_mem_cons.mpr ⟨lw_p99, List.forall_mem_cons.mpr ⟨lw_p100, List.forall_mem_cons.mpr ⟨lw_p101, List.forall_mem_cons.mpr ⟨lw_p102, List.forall_mem_cons.mpr ⟨lw_p103, List.forall_mem_cons.mpr ⟨lw_p104, List.forall_mem_cons.mpr ⟨lw_p105, List.forall_mem_cons.mpr ⟨lw_p106, List.forall_mem_cons.mpr ⟨lw_p107, List.forall_mem_cons.mpr ⟨lw_p108, List.forall_mem_cons.mpr ⟨lw_p109, fun _ h => absurd h List.not_mem_nil⟩⟩⟩⟩⟩⟩⟩⟩⟩⟩⟩⟩⟩⟩
def lw_privs : List (MethodName × Nat) := lw_privs_1 ++ (lw_privs_2 ++ (lw_privs_3 ++ (lw_privs_4 ++ (lw_privs_5 ++ (lw_privs_6 ++ (lw_privs_7))))))
def lw_tbl : List Cond := k2_sels lw_privs ++ tables_1
theorem lw_privs_ok : ∀ q ∈ lw_privs, lw_okq q := by
  show ∀ q ∈ lw_privs_1 ++ (lw_privs_2 ++ (lw_privs_3 ++ (lw_privs_4 ++ (lw_privs_5 ++ (lw_privs_6 ++ (lw_privs_7)))))), lw_okq q
  exact List.forall_mem_append.mpr ⟨lw_r1, List.forall_mem_append.mpr ⟨lw_r2, List.forall_mem_append.mpr ⟨lw_r3, List.forall_mem_append.mpr ⟨lw_r4, List.forall_mem_append.mpr ⟨lw_r5, List.forall_mem_append.mpr ⟨lw_r6, lw_r7⟩⟩⟩⟩⟩⟩
-- ===== end of PART A; then your names; then what follows =====
def RX0 : String := "UnimodularTables$Dice"
def TX0 : u_T := fun k => match k with
  | _ => ("UnimodularTables$Dice", "x", "J", false)
def tyX0 : Nat → FieldType := fun k => match k with
  | _ => .long
abbrev wsX00 : List Cond := u_ws RX0 TX0 1
theorem nmX0 : ∀ a, a < 1 → ∀ b, b < 1 → a ≠ b → (TX0 a).2.1 ≠ (TX0 b).2.1 := by decide +kernel
theorem tyX0_ok : ∀ k, k < 1 → parseFieldDescriptor (TX0 k).2.2.1 = some (tyX0 k) := by decide +kernel
abbrev cX0_init : ByteArray := prog_2_method_1_code
def yX0_init : MethodName := ⟨RX0, "<init>", "()V"⟩
abbrev cX0_draw : ByteArray := prog_2_method_2_code
def yX0_draw : MethodName := ⟨RX0, "draw", "(I)I"⟩
def RX1 : String := "UnimodularTables$Minors"
def TX1 : u_T := fun k => match k with
  | 0 => ("UnimodularTables$Minors", "dets", "[I", true)
  | 1 => ("UnimodularTables$Minors", "rowSets", "I", false)
  | 2 => ("UnimodularTables$Minors", "columnSets", "I", false)
  | 3 => ("UnimodularTables$Minors", "beyondRows", "I", false)
  | 4 => ("UnimodularTables$Minors", "beyondColumns", "I", false)
  | _ => ("UnimodularTables$Minors", "known", "Z", false)
def tyX1 : Nat → FieldType := fun k => match k with
  | 0 => .array .int
  | 1 => .int
  | 2 => .int
  | 3 => .int
  | 4 => .int
  | _ => .boolean
abbrev wsX10 : List Cond := u_ws RX1 TX1 6
theorem nmX1 : ∀ a, a < 6 → ∀ b, b < 6 → a ≠ b → (TX1 a).2.1 ≠ (TX1 b).2.1 := by decide +kernel
theorem tyX1_ok : ∀ k, k < 6 → parseFieldDescriptor (TX1 k).2.2.1 = some (tyX1 k) := by decide +kernel
abbrev cX1_init : ByteArray := prog_3_method_1_code
def yX1_init : MethodName := ⟨RX1, "<init>", "()V"⟩
abbrev cX1_reckon : ByteArray := prog_3_method_2_code
def yX1_reckon : MethodName := ⟨RX1, "reckon", "(LUnimodularTables$Table;)V"⟩
abbrev cX1_expanded : ByteArray := prog_3_method_3_code
def yX1_expanded : MethodName := ⟨RX1, "expanded", "(LUnimodularTables$Table;II)I"⟩
abbrev cX1_noteBeyond : ByteArray := prog_3_method_4_code
def yX1_noteBeyond : MethodName := ⟨RX1, "noteBeyond", "(II)V"⟩
abbrev cX1_allWithin : ByteArray := prog_3_method_5_code
def yX1_allWithin : MethodName := ⟨RX1, "allWithin", "()Z"⟩
abbrev cX1_of : ByteArray := prog_3_method_6_code
def yX1_of : MethodName := ⟨RX1, "of", "(II)I"⟩
abbrev cX1_allWithinIf : ByteArray := prog_3_method_7_code
def yX1_allWithinIf : MethodName := ⟨RX1, "allWithinIf", "(LUnimodularTables$Table;III)Z"⟩
abbrev cX1_cofactor : ByteArray := prog_3_method_8_code
def yX1_cofactor : MethodName := ⟨RX1, "cofactor", "(IIII)I"⟩
abbrev cX1_howMany : ByteArray := prog_3_method_9_code
def yX1_howMany : MethodName := ⟨RX1, "howMany", "(II)I"⟩
abbrev cX1_sortOf : ByteArray := prog_3_method_10_code
def yX1_sortOf : MethodName := ⟨RX1, "sortOf", "(I)I"⟩
abbrev cX1_howManyNotNought : ByteArray := prog_3_method_11_code
def yX1_howManyNotNought : MethodName := ⟨RX1, "howManyNotNought", "()I"⟩
abbrev cX1_largestNotNought : ByteArray := prog_3_method_12_code
def yX1_largestNotNought : MethodName := ⟨RX1, "largestNotNought", "(I)I"⟩
def RX2 : String := "UnimodularTables$Past"
def TX2 : u_T := fun k => match k with
  | 0 => ("UnimodularTables$Past", "tables", "[LUnimodularTables$Table;", true)
  | 1 => ("UnimodularTables$Past", "oldest", "I", false)
  | _ => ("UnimodularTables$Past", "size", "I", false)
def tyX2 : Nat → FieldType := fun k => match k with
  | 0 => .array (.object "UnimodularTables$Table")
  | 1 => .int
  | _ => .int
abbrev wsX20 : List Cond := u_ws RX2 TX2 3
theorem nmX2 : ∀ a, a < 3 → ∀ b, b < 3 → a ≠ b → (TX2 a).2.1 ≠ (TX2 b).2.1 := by decide +kernel
theorem tyX2_ok : ∀ k, k < 3 → parseFieldDescriptor (TX2 k).2.2.1 = some (tyX2 k) := by decide +kernel
abbrev cX2_init : ByteArray := prog_4_method_1_code
def yX2_init : MethodName := ⟨RX2, "<init>", "()V"⟩
abbrev cX2_clear : ByteArray := prog_4_method_2_code
def yX2_clear : MethodName := ⟨RX2, "clear", "()V"⟩
abbrev cX2_add : ByteArray := prog_4_method_3_code
def yX2_add : MethodName := ⟨RX2, "add", "(LUnimodularTables$Table;)V"⟩
abbrev cX2_takeBack : ByteArray := prog_4_method_4_code
def yX2_takeBack : MethodName := ⟨RX2, "takeBack", "(LUnimodularTables$Table;)V"⟩
def RX3 : String := "UnimodularTables$Pattern"
def TX3 : u_T := fun k => match k with
  | 0 => ("UnimodularTables$Pattern", "special", "LUnimodularTables$Table;", true)
  | 1 => ("UnimodularTables$Pattern", "moved", "LUnimodularTables$Table;", true)
  | _ => ("UnimodularTables$Pattern", "order", "[I", true)
def tyX3 : Nat → FieldType := fun k => match k with
  | 0 => .object "UnimodularTables$Table"
  | 1 => .object "UnimodularTables$Table"
  | _ => .array .int
abbrev wsX30 : List Cond := u_ws RX3 TX3 3
theorem nmX3 : ∀ a, a < 3 → ∀ b, b < 3 → a ≠ b → (TX3 a).2.1 ≠ (TX3 b).2.1 := by decide +kernel
theorem tyX3_ok : ∀ k, k < 3 → parseFieldDescriptor (TX3 k).2.2.1 = some (tyX3 k) := by decide +kernel
abbrev cX3_init : ByteArray := prog_5_method_1_code
def yX3_init : MethodName := ⟨RX3, "<init>", "()V"⟩
abbrev cX3_fits : ByteArray := prog_5_method_2_code
def yX3_fits : MethodName := ⟨RX3, "fits", "(LUnimodularTables$Table;Ljava/lang/String;)Z"⟩
abbrev cX3_write : ByteArray := prog_5_method_3_code
def yX3_write : MethodName := ⟨RX3, "write", "(Ljava/lang/String;)V"⟩
abbrev cX3_setOrder : ByteArray := prog_5_method_4_code
def yX3_setOrder : MethodName := ⟨RX3, "setOrder", "(I)V"⟩
abbrev cX3_notUsed : ByteArray := prog_5_method_5_code
def yX3_notUsed : MethodName := ⟨RX3, "notUsed", "(II)I"⟩
abbrev cX3_moveColumns : ByteArray := prog_5_method_6_code
def yX3_moveColumns : MethodName := ⟨RX3, "moveColumns", "(LUnimodularTables$Table;)Z"⟩
abbrev cX3_isAlike : ByteArray := prog_5_method_7_code
def yX3_isAlike : MethodName := ⟨RX3, "isAlike", "(LUnimodularTables$Table;II)Z"⟩
def RX4 : String := "UnimodularTables$Script"
def TX4 : u_T := fun k => match k with
  | 0 => ("UnimodularTables$Script", "size", "I", false)
  | 1 => ("UnimodularTables$Script", "kinds", "[I", true)
  | 2 => ("UnimodularTables$Script", "firsts", "[I", true)
  | 3 => ("UnimodularTables$Script", "seconds", "[I", true)
  | _ => ("UnimodularTables$Script", "values", "[I", true)
def tyX4 : Nat → FieldType := fun k => match k with
  | 0 => .int
  | 1 => .array .int
  | 2 => .array .int
  | 3 => .array .int
  | _ => .array .int
abbrev wsX40 : List Cond := u_ws RX4 TX4 5
theorem nmX4 : ∀ a, a < 5 → ∀ b, b < 5 → a ≠ b → (TX4 a).2.1 ≠ (TX4 b).2.1 := by decide +kernel
theorem tyX4_ok : ∀ k, k < 5 → parseFieldDescriptor (TX4 k).2.2.1 = some (tyX4 k) := by decide +kernel
abbrev cX4_init : ByteArray := prog_6_method_1_code
def yX4_init : MethodName := ⟨RX4, "<init>", "()V"⟩
abbrev cX4_read : ByteArray := prog_6_method_2_code
def yX4_read : MethodName := ⟨RX4, "read", "(LUnimodularTables$Tape;)I"⟩
abbrev cX4_isWhole : ByteArray := prog_6_method_3_code
def yX4_isWhole : MethodName := ⟨RX4, "isWhole", "(I)Z"⟩
abbrev cX4_begins : ByteArray := prog_6_method_4_code
def yX4_begins : MethodName := ⟨RX4, "begins", "(I)Z"⟩
abbrev cX4_goesOn : ByteArray := prog_6_method_5_code
def yX4_goesOn : MethodName := ⟨RX4, "goesOn", "(II)Z"⟩
abbrev cX4_tell : ByteArray := prog_6_method_6_code
def yX4_tell : MethodName := ⟨RX4, "tell", "(II)I"⟩
def RX5 : String := "UnimodularTables$Shape"
def TX5 : u_T := fun k => match k with
  | 0 => ("UnimodularTables$Shape", "rows", "I", false)
  | 1 => ("UnimodularTables$Shape", "columns", "I", false)
  | 2 => ("UnimodularTables$Shape", "across", "[I", true)
  | 3 => ("UnimodularTables$Shape", "down", "[I", true)
  | 4 => ("UnimodularTables$Shape", "parts", "I", false)
  | 5 => ("UnimodularTables$Shape", "partRows", "[I", true)
  | _ => ("UnimodularTables$Shape", "partColumns", "[I", true)
def tyX5 : Nat → FieldType := fun k => match k with
  | 0 => .int
  | 1 => .int
  | 2 => .array .int
  | 3 => .array .int
  | 4 => .int
  | 5 => .array .int
  | _ => .array .int
abbrev wsX50 : List Cond := u_ws RX5 TX5 7
theorem nmX5 : ∀ a, a < 7 → ∀ b, b < 7 → a ≠ b → (TX5 a).2.1 ≠ (TX5 b).2.1 := by decide +kernel
theorem tyX5_ok : ∀ k, k < 7 → parseFieldDescriptor (TX5 k).2.2.1 = some (tyX5 k) := by decide +kernel
abbrev cX5_init : ByteArray := prog_7_method_1_code
def yX5_init : MethodName := ⟨RX5, "<init>", "()V"⟩
abbrev cX5_takeFrom : ByteArray := prog_7_method_2_code
def yX5_takeFrom : MethodName := ⟨RX5, "takeFrom", "(LUnimodularTables$Table;)V"⟩
abbrev cX5_columnsMetBy : ByteArray := prog_7_method_3_code
def yX5_columnsMetBy : MethodName := ⟨RX5, "columnsMetBy", "(I)I"⟩
abbrev cX5_rowsMetBy : ByteArray := prog_7_method_4_code
def yX5_rowsMetBy : MethodName := ⟨RX5, "rowsMetBy", "(I)I"⟩
abbrev cX5_findParts : ByteArray := prog_7_method_5_code
def yX5_findParts : MethodName := ⟨RX5, "findParts", "()V"⟩
abbrev cX5_allJoinedTo : ByteArray := prog_7_method_6_code
def yX5_allJoinedTo : MethodName := ⟨RX5, "allJoinedTo", "(I)I"⟩
abbrev cX5_addPart : ByteArray := prog_7_method_7_code
def yX5_addPart : MethodName := ⟨RX5, "addPart", "(II)V"⟩
abbrev cX5_partOf : ByteArray := prog_7_method_8_code
def yX5_partOf : MethodName := ⟨RX5, "partOf", "(II)I"⟩
abbrev cX5_mostApart : ByteArray := prog_7_method_9_code
def yX5_mostApart : MethodName := ⟨RX5, "mostApart", "()I"⟩
abbrev cX5_areApart : ByteArray := prog_7_method_10_code
def yX5_areApart : MethodName := ⟨RX5, "areApart", "(I)Z"⟩
abbrev cX5_fewestMeeting : ByteArray := prog_7_method_11_code
def yX5_fewestMeeting : MethodName := ⟨RX5, "fewestMeeting", "()I"⟩
abbrev cX5_shortestRound : ByteArray := prog_7_method_12_code
def yX5_shortestRound : MethodName := ⟨RX5, "shortestRound", "()I"⟩
abbrev cX5_roundBy : ByteArray := prog_7_method_13_code
def yX5_roundBy : MethodName := ⟨RX5, "roundBy", "(II)I"⟩
def RX6 : String := "UnimodularTables$Signing"
def TX6 : u_T := fun k => match k with
  | 0 => ("UnimodularTables$Signing", "signs", "LUnimodularTables$Table;", true)
  | 1 => ("UnimodularTables$Signing", "rowParts", "[I", true)
  | 2 => ("UnimodularTables$Signing", "columnParts", "[I", true)
  | 3 => ("UnimodularTables$Signing", "rowsFar", "[I", true)
  | 4 => ("UnimodularTables$Signing", "columnsFar", "[I", true)
  | 5 => ("UnimodularTables$Signing", "nextRow", "I", false)
  | 6 => ("UnimodularTables$Signing", "nextColumn", "I", false)
  | _ => ("UnimodularTables$Signing", "known", "Z", false)
def tyX6 : Nat → FieldType := fun k => match k with
  | 0 => .object "UnimodularTables$Table"
  | 1 => .array .int
  | 2 => .array .int
  | 3 => .array .int
  | 4 => .array .int
  | 5 => .int
  | 6 => .int
  | _ => .boolean
abbrev wsX60 : List Cond := u_ws RX6 TX6 8
theorem nmX6 : ∀ a, a < 8 → ∀ b, b < 8 → a ≠ b → (TX6 a).2.1 ≠ (TX6 b).2.1 := by decide +kernel
theorem tyX6_ok : ∀ k, k < 8 → parseFieldDescriptor (TX6 k).2.2.1 = some (tyX6 k) := by decide +kernel
abbrev cX6_init : ByteArray := prog_8_method_1_code
def yX6_init : MethodName := ⟨RX6, "<init>", "()V"⟩
abbrev cX6_signAll : ByteArray := prog_8_method_2_code
def yX6_signAll : MethodName := ⟨RX6, "signAll", "(LUnimodularTables$Table;)V"⟩
abbrev cX6_signForest : ByteArray := prog_8_method_3_code
def yX6_signForest : MethodName := ⟨RX6, "signForest", "(LUnimodularTables$Table;)V"⟩
abbrev cX6_unite : ByteArray := prog_8_method_4_code
def yX6_unite : MethodName := ⟨RX6, "unite", "(II)V"⟩
abbrev cX6_findNext : ByteArray := prog_8_method_5_code
def yX6_findNext : MethodName := ⟨RX6, "findNext", "(LUnimodularTables$Table;)Z"⟩
abbrev cX6_measureFrom : ByteArray := prog_8_method_6_code
def yX6_measureFrom : MethodName := ⟨RX6, "measureFrom", "(I)V"⟩
abbrev cX6_reachRows : ByteArray := prog_8_method_7_code
def yX6_reachRows : MethodName := ⟨RX6, "reachRows", "(I)V"⟩
abbrev cX6_reachColumns : ByteArray := prog_8_method_8_code
def yX6_reachColumns : MethodName := ⟨RX6, "reachColumns", "(I)V"⟩
abbrev cX6_sumOfWay : ByteArray := prog_8_method_9_code
def yX6_sumOfWay : MethodName := ⟨RX6, "sumOfWay", "(I)I"⟩
abbrev cX6_columnToldAt : ByteArray := prog_8_method_10_code
def yX6_columnToldAt : MethodName := ⟨RX6, "columnToldAt", "(II)I"⟩
abbrev cX6_rowToldAt : ByteArray := prog_8_method_11_code
def yX6_rowToldAt : MethodName := ⟨RX6, "rowToldAt", "(II)I"⟩
def RX7 : String := "UnimodularTables$Table"
def TX7 : u_T := fun k => match k with
  | 0 => ("UnimodularTables$Table", "rows", "I", false)
  | 1 => ("UnimodularTables$Table", "columns", "I", false)
  | _ => ("UnimodularTables$Table", "cells", "[I", true)
def tyX7 : Nat → FieldType := fun k => match k with
  | 0 => .int
  | 1 => .int
  | _ => .array .int
abbrev wsX70 : List Cond := u_ws RX7 TX7 3
theorem nmX7 : ∀ a, a < 3 → ∀ b, b < 3 → a ≠ b → (TX7 a).2.1 ≠ (TX7 b).2.1 := by decide +kernel
theorem tyX7_ok : ∀ k, k < 3 → parseFieldDescriptor (TX7 k).2.2.1 = some (tyX7 k) := by decide +kernel
abbrev cX7_init : ByteArray := prog_9_method_1_code
def yX7_init : MethodName := ⟨RX7, "<init>", "()V"⟩
abbrev cX7_isNone : ByteArray := prog_9_method_2_code
def yX7_isNone : MethodName := ⟨RX7, "isNone", "()Z"⟩
abbrev cX7_has : ByteArray := prog_9_method_3_code
def yX7_has : MethodName := ⟨RX7, "has", "(II)Z"⟩
abbrev cX7_hasRowSet : ByteArray := prog_9_method_4_code
def yX7_hasRowSet : MethodName := ⟨RX7, "hasRowSet", "(I)Z"⟩
abbrev cX7_hasColumnSet : ByteArray := prog_9_method_5_code
def yX7_hasColumnSet : MethodName := ⟨RX7, "hasColumnSet", "(I)Z"⟩
abbrev cX7_at : ByteArray := prog_9_method_6_code
def yX7_at : MethodName := ⟨RX7, "at", "(II)I"⟩
abbrev cX7_put : ByteArray := prog_9_method_7_code
def yX7_put : MethodName := ⟨RX7, "put", "(III)V"⟩
abbrev cX7_copyFrom : ByteArray := prog_9_method_8_code
def yX7_copyFrom : MethodName := ⟨RX7, "copyFrom", "(LUnimodularTables$Table;)V"⟩
abbrev cX7_clear : ByteArray := prog_9_method_9_code
def yX7_clear : MethodName := ⟨RX7, "clear", "(II)V"⟩
abbrev cX7_notNought : ByteArray := prog_9_method_10_code
def yX7_notNought : MethodName := ⟨RX7, "notNought", "()I"⟩
abbrev cX7_read : ByteArray := prog_9_method_11_code
def yX7_read : MethodName := ⟨RX7, "read", "(LUnimodularTables$Tape;)I"⟩
abbrev cX7_isRowFull : ByteArray := prog_9_method_12_code
def yX7_isRowFull : MethodName := ⟨RX7, "isRowFull", "(III)Z"⟩
abbrev cX7_act : ByteArray := prog_9_method_13_code
def yX7_act : MethodName := ⟨RX7, "act", "(IIII)I"⟩
abbrev cX7_onColumns : ByteArray := prog_9_method_14_code
def yX7_onColumns : MethodName := ⟨RX7, "onColumns", "(III)I"⟩
abbrev cX7_negateRow : ByteArray := prog_9_method_15_code
def yX7_negateRow : MethodName := ⟨RX7, "negateRow", "(I)I"⟩
abbrev cX7_changeRows : ByteArray := prog_9_method_16_code
def yX7_changeRows : MethodName := ⟨RX7, "changeRows", "(II)I"⟩
abbrev cX7_dropRow : ByteArray := prog_9_method_17_code
def yX7_dropRow : MethodName := ⟨RX7, "dropRow", "(I)I"⟩
abbrev cX7_set : ByteArray := prog_9_method_18_code
def yX7_set : MethodName := ⟨RX7, "set", "(III)I"⟩
abbrev cX7_transpose : ByteArray := prog_9_method_19_code
def yX7_transpose : MethodName := ⟨RX7, "transpose", "()I"⟩
abbrev cX7_turn : ByteArray := prog_9_method_20_code
def yX7_turn : MethodName := ⟨RX7, "turn", "(II)I"⟩
abbrev cX7_canTurn : ByteArray := prog_9_method_21_code
def yX7_canTurn : MethodName := ⟨RX7, "canTurn", "(II)Z"⟩
abbrev cX7_becomeJoined : ByteArray := prog_9_method_22_code
def yX7_becomeJoined : MethodName := ⟨RX7, "becomeJoined", "(LUnimodularTables$Table;LUnimodularTables$Table;)I"⟩
abbrev cX7_becomeLinked : ByteArray := prog_9_method_23_code
def yX7_becomeLinked : MethodName := ⟨RX7, "becomeLinked", "(LUnimodularTables$Table;LUnimodularTables$Table;)I"⟩
abbrev cX7_linked : ByteArray := prog_9_method_24_code
def yX7_linked : MethodName := ⟨RX7, "linked", "(LUnimodularTables$Table;LUnimodularTables$Table;II)I"⟩
abbrev cX7_halved : ByteArray := prog_9_method_25_code
def yX7_halved : MethodName := ⟨RX7, "halved", "(I)I"⟩
abbrev cX7_halvesAll : ByteArray := prog_9_method_26_code
def yX7_halvesAll : MethodName := ⟨RX7, "halvesAll", "(II)Z"⟩
abbrev cX7_scalesTo : ByteArray := prog_9_method_27_code
def yX7_scalesTo : MethodName := ⟨RX7, "scalesTo", "(LUnimodularTables$Table;)Z"⟩
abbrev cX7_columnIs : ByteArray := prog_9_method_28_code
def yX7_columnIs : MethodName := ⟨RX7, "columnIs", "(LUnimodularTables$Table;III)Z"⟩
def RX8 : String := "UnimodularTables$Tape"
def TX8 : u_T := fun k => match k with
  | 0 => ("UnimodularTables$Tape", "bytes", "[I", true)
  | _ => ("UnimodularTables$Tape", "length", "I", false)
def tyX8 : Nat → FieldType := fun k => match k with
  | 0 => .array .int
  | _ => .int
abbrev wsX80 : List Cond := u_ws RX8 TX8 2
theorem nmX8 : ∀ a, a < 2 → ∀ b, b < 2 → a ≠ b → (TX8 a).2.1 ≠ (TX8 b).2.1 := by decide +kernel
theorem tyX8_ok : ∀ k, k < 2 → parseFieldDescriptor (TX8 k).2.2.1 = some (tyX8 k) := by decide +kernel
abbrev cX8_init : ByteArray := prog_10_method_1_code
def yX8_init : MethodName := ⟨RX8, "<init>", "()V"⟩
abbrev cX8_bytesIn : ByteArray := prog_10_method_2_code
def yX8_bytesIn : MethodName := ⟨RX8, "bytesIn", "(I)I"⟩
abbrev cX8_append : ByteArray := prog_10_method_3_code
def yX8_append : MethodName := ⟨RX8, "append", "(I)V"⟩
abbrev cX8_at : ByteArray := prog_10_method_4_code
def yX8_at : MethodName := ⟨RX8, "at", "(I)I"⟩
def RX9 : String := "UnimodularTables$Tree"
def TX9 : u_T := fun k => match k with
  | 0 => ("UnimodularTables$Tree", "plan", "LUnimodularTables$Table;", true)
  | 1 => ("UnimodularTables$Tree", "tails", "[I", true)
  | 2 => ("UnimodularTables$Tree", "heads", "[I", true)
  | 3 => ("UnimodularTables$Tree", "found", "Z", false)
  | _ => ("UnimodularTables$Tree", "known", "Z", false)
def tyX9 : Nat → FieldType := fun k => match k with
  | 0 => .object "UnimodularTables$Table"
  | 1 => .array .int
  | 2 => .array .int
  | 3 => .boolean
  | _ => .boolean
abbrev wsX90 : List Cond := u_ws RX9 TX9 5
theorem nmX9 : ∀ a, a < 5 → ∀ b, b < 5 → a ≠ b → (TX9 a).2.1 ≠ (TX9 b).2.1 := by decide +kernel
theorem tyX9_ok : ∀ k, k < 5 → parseFieldDescriptor (TX9 k).2.2.1 = some (tyX9 k) := by decide +kernel
abbrev cX9_init : ByteArray := prog_11_method_1_code
def yX9_init : MethodName := ⟨RX9, "<init>", "()V"⟩
abbrev cX9_seek : ByteArray := prog_11_method_2_code
def yX9_seek : MethodName := ⟨RX9, "seek", "(LUnimodularTables$Table;ZZ)V"⟩
abbrev cX9_grow : ByteArray := prog_11_method_3_code
def yX9_grow : MethodName := ⟨RX9, "grow", "(I)Z"⟩
abbrev cX9_isNew : ByteArray := prog_11_method_4_code
def yX9_isNew : MethodName := ⟨RX9, "isNew", "(II)Z"⟩
abbrev cX9_growBy : ByteArray := prog_11_method_5_code
def yX9_growBy : MethodName := ⟨RX9, "growBy", "(IIII)Z"⟩
abbrev cX9_arcsAt : ByteArray := prog_11_method_6_code
def yX9_arcsAt : MethodName := ⟨RX9, "arcsAt", "(II)I"⟩
abbrev cX9_moveEnds : ByteArray := prog_11_method_7_code
def yX9_moveEnds : MethodName := ⟨RX9, "moveEnds", "(III)V"⟩
abbrev cX9_areWays : ByteArray := prog_11_method_8_code
def yX9_areWays : MethodName := ⟨RX9, "areWays", "(I)Z"⟩
abbrev cX9_starts : ByteArray := prog_11_method_9_code
def yX9_starts : MethodName := ⟨RX9, "starts", "(II)I"⟩
abbrev cX9_leaves : ByteArray := prog_11_method_10_code
def yX9_leaves : MethodName := ⟨RX9, "leaves", "(II)I"⟩
abbrev cX9_reaches : ByteArray := prog_11_method_11_code
def yX9_reaches : MethodName := ⟨RX9, "reaches", "(II)I"⟩
abbrev cX9_endOf : ByteArray := prog_11_method_12_code
def yX9_endOf : MethodName := ⟨RX9, "endOf", "(II)I"⟩
abbrev cX9_arcOnWay : ByteArray := prog_11_method_13_code
def yX9_arcOnWay : MethodName := ⟨RX9, "arcOnWay", "(II)I"⟩
abbrev cX9_arcFrom : ByteArray := prog_11_method_14_code
def yX9_arcFrom : MethodName := ⟨RX9, "arcFrom", "(II)I"⟩
def RX10 : String := "UnimodularTables"
def TX10 : u_T := fun k => match k with
  | 0 => ("UnimodularTables", "tape", "LUnimodularTables$Tape;", true)
  | 1 => ("UnimodularTables", "table", "LUnimodularTables$Table;", true)
  | 2 => ("UnimodularTables", "before", "LUnimodularTables$Table;", true)
  | 3 => ("UnimodularTables", "draft", "LUnimodularTables$Table;", true)
  | 4 => ("UnimodularTables", "past", "LUnimodularTables$Past;", true)
  | 5 => ("UnimodularTables", "keptTables", "[LUnimodularTables$Table;", true)
  | 6 => ("UnimodularTables", "keptCount", "I", false)
  | 7 => ("UnimodularTables", "scripts", "[LUnimodularTables$Script;", true)
  | 8 => ("UnimodularTables", "scriptCount", "I", false)
  | 9 => ("UnimodularTables", "pictured", "LUnimodularTables$Table;", true)
  | 10 => ("UnimodularTables", "picturedKept", "I", false)
  | 11 => ("UnimodularTables", "refusals", "[I", true)
  | 12 => ("UnimodularTables", "minors", "LUnimodularTables$Minors;", true)
  | 13 => ("UnimodularTables", "tree", "LUnimodularTables$Tree;", true)
  | 14 => ("UnimodularTables", "cotree", "LUnimodularTables$Tree;", true)
  | 15 => ("UnimodularTables", "signing", "LUnimodularTables$Signing;", true)
  | 16 => ("UnimodularTables", "shape", "LUnimodularTables$Shape;", true)
  | 17 => ("UnimodularTables", "pattern", "LUnimodularTables$Pattern;", true)
  | _ => ("UnimodularTables", "dice", "LUnimodularTables$Dice;", true)
def tyX10 : Nat → FieldType := fun k => match k with
  | 0 => .object "UnimodularTables$Tape"
  | 1 => .object "UnimodularTables$Table"
  | 2 => .object "UnimodularTables$Table"
  | 3 => .object "UnimodularTables$Table"
  | 4 => .object "UnimodularTables$Past"
  | 5 => .array (.object "UnimodularTables$Table")
  | 6 => .int
  | 7 => .array (.object "UnimodularTables$Script")
  | 8 => .int
  | 9 => .object "UnimodularTables$Table"
  | 10 => .int
  | 11 => .array .int
  | 12 => .object "UnimodularTables$Minors"
  | 13 => .object "UnimodularTables$Tree"
  | 14 => .object "UnimodularTables$Tree"
  | 15 => .object "UnimodularTables$Signing"
  | 16 => .object "UnimodularTables$Shape"
  | 17 => .object "UnimodularTables$Pattern"
  | _ => .object "UnimodularTables$Dice"
abbrev wsX100 : List Cond := u_ws RX10 TX10 19
theorem nmX10 : ∀ a, a < 19 → ∀ b, b < 19 → a ≠ b → (TX10 a).2.1 ≠ (TX10 b).2.1 := by decide +kernel
theorem tyX10_ok : ∀ k, k < 19 → parseFieldDescriptor (TX10 k).2.2.1 = some (tyX10 k) := by decide +kernel
abbrev cX10_init : ByteArray := prog_1_method_1_code
def yX10_init : MethodName := ⟨RX10, "<init>", "()V"⟩
abbrev cX10_feed : ByteArray := prog_1_method_2_code
def yX10_feed : MethodName := ⟨RX10, "feed", "(IIIII)I"⟩
abbrev cX10_end : ByteArray := prog_1_method_3_code
def yX10_end : MethodName := ⟨RX10, "end", "(I)Z"⟩
abbrev cX10_fault : ByteArray := prog_1_method_4_code
def yX10_fault : MethodName := ⟨RX10, "fault", "(I)I"⟩
abbrev cX10_text : ByteArray := prog_1_method_5_code
def yX10_text : MethodName := ⟨RX10, "text", "(I)I"⟩
abbrev cX10_entry : ByteArray := prog_1_method_6_code
def yX10_entry : MethodName := ⟨RX10, "entry", "(II)I"⟩
abbrev cX10_change : ByteArray := prog_1_method_7_code
def yX10_change : MethodName := ⟨RX10, "change", "(III)I"⟩
abbrev cX10_deal : ByteArray := prog_1_method_8_code
def yX10_deal : MethodName := ⟨RX10, "deal", "(III)I"⟩
abbrev cX10_keep : ByteArray := prog_1_method_9_code
def yX10_keep : MethodName := ⟨RX10, "keep", "()I"⟩
abbrev cX10_kept : ByteArray := prog_1_method_10_code
def yX10_kept : MethodName := ⟨RX10, "kept", "(III)I"⟩
abbrev cX10_join : ByteArray := prog_1_method_11_code
def yX10_join : MethodName := ⟨RX10, "join", "(III)I"⟩
abbrev cX10_undo : ByteArray := prog_1_method_12_code
def yX10_undo : MethodName := ⟨RX10, "undo", "()I"⟩
abbrev cX10_det : ByteArray := prog_1_method_13_code
def yX10_det : MethodName := ⟨RX10, "det", "(II)I"⟩
abbrev cX10_squares : ByteArray := prog_1_method_14_code
def yX10_squares : MethodName := ⟨RX10, "squares", "(II)I"⟩
abbrev cX10_total : ByteArray := prog_1_method_15_code
def yX10_total : MethodName := ⟨RX10, "total", "()I"⟩
abbrev cX10_witness : ByteArray := prog_1_method_16_code
def yX10_witness : MethodName := ⟨RX10, "witness", "(I)I"⟩
abbrev cX10_halves : ByteArray := prog_1_method_17_code
def yX10_halves : MethodName := ⟨RX10, "halves", "(I)I"⟩
abbrev cX10_unhalved : ByteArray := prog_1_method_18_code
def yX10_unhalved : MethodName := ⟨RX10, "unhalved", "()I"⟩
abbrev cX10_network : ByteArray := prog_1_method_19_code
def yX10_network : MethodName := ⟨RX10, "network", "(I)I"⟩
abbrev cX10_arc : ByteArray := prog_1_method_20_code
def yX10_arc : MethodName := ⟨RX10, "arc", "(III)I"⟩
abbrev cX10_way : ByteArray := prog_1_method_21_code
def yX10_way : MethodName := ⟨RX10, "way", "(III)I"⟩
abbrev cX10_signed : ByteArray := prog_1_method_22_code
def yX10_signed : MethodName := ⟨RX10, "signed", "(II)I"⟩
abbrev cX10_regular : ByteArray := prog_1_method_23_code
def yX10_regular : MethodName := ⟨RX10, "regular", "()I"⟩
abbrev cX10_scaled : ByteArray := prog_1_method_24_code
def yX10_scaled : MethodName := ⟨RX10, "scaled", "(I)I"⟩
abbrev cX10_special : ByteArray := prog_1_method_25_code
def yX10_special : MethodName := ⟨RX10, "special", "()I"⟩
abbrev cX10_block : ByteArray := prog_1_method_26_code
def yX10_block : MethodName := ⟨RX10, "block", "(II)I"⟩
abbrev cX10_rank : ByteArray := prog_1_method_27_code
def yX10_rank : MethodName := ⟨RX10, "rank", "(I)I"⟩
abbrev cX10_bases : ByteArray := prog_1_method_28_code
def yX10_bases : MethodName := ⟨RX10, "bases", "()I"⟩
abbrev cX10_mends : ByteArray := prog_1_method_29_code
def yX10_mends : MethodName := ⟨RX10, "mends", "()I"⟩
abbrev cX10_fragile : ByteArray := prog_1_method_30_code
def yX10_fragile : MethodName := ⟨RX10, "fragile", "()I"⟩
abbrev cX10_fills : ByteArray := prog_1_method_31_code
def yX10_fills : MethodName := ⟨RX10, "fills", "(II)I"⟩
abbrev cX10_pack : ByteArray := prog_1_method_32_code
def yX10_pack : MethodName := ⟨RX10, "pack", "(I)I"⟩
abbrev cX10_adjoint : ByteArray := prog_1_method_33_code
def yX10_adjoint : MethodName := ⟨RX10, "adjoint", "(II)I"⟩
abbrev cX10_cycle : ByteArray := prog_1_method_34_code
def yX10_cycle : MethodName := ⟨RX10, "cycle", "()I"⟩
abbrev cX10_step : ByteArray := prog_1_method_35_code
def yX10_step : MethodName := ⟨RX10, "step", "(III)I"⟩
abbrev cX10_run : ByteArray := prog_1_method_36_code
def yX10_run : MethodName := ⟨RX10, "run", "(II)I"⟩
abbrev cX10_perform : ByteArray := prog_1_method_37_code
def yX10_perform : MethodName := ⟨RX10, "perform", "(I)I"⟩
abbrev cX10_draws : ByteArray := prog_1_method_38_code
def yX10_draws : MethodName := ⟨RX10, "draws", "(IJ)I"⟩
abbrev cX10_status : ByteArray := prog_1_method_39_code
def yX10_status : MethodName := ⟨RX10, "status", "(I)I"⟩
abbrev cX10_image : ByteArray := prog_1_method_40_code
def yX10_image : MethodName := ⟨RX10, "image", "()I"⟩
abbrev cX10_back : ByteArray := prog_1_method_41_code
def yX10_back : MethodName := ⟨RX10, "back", "()I"⟩
abbrev cX10_count : ByteArray := prog_1_method_42_code
def yX10_count : MethodName := ⟨RX10, "count", "(I)I"⟩
abbrev cX10_tableFromTape : ByteArray := prog_1_method_43_code
def yX10_tableFromTape : MethodName := ⟨RX10, "tableFromTape", "()I"⟩
abbrev cX10_scriptFromTape : ByteArray := prog_1_method_44_code
def yX10_scriptFromTape : MethodName := ⟨RX10, "scriptFromTape", "()I"⟩
abbrev cX10_hasSide : ByteArray := prog_1_method_45_code
def yX10_hasSide : MethodName := ⟨RX10, "hasSide", "(I)Z"⟩
abbrev cX10_isKept : ByteArray := prog_1_method_46_code
def yX10_isKept : MethodName := ⟨RX10, "isKept", "(I)Z"⟩
abbrev cX10_isScript : ByteArray := prog_1_method_47_code
def yX10_isScript : MethodName := ⟨RX10, "isScript", "(I)Z"⟩
abbrev cX10_refused : ByteArray := prog_1_method_48_code
def yX10_refused : MethodName := ⟨RX10, "refused", "(I)Z"⟩
abbrev cX10_actOfDeal : ByteArray := prog_1_method_49_code
def yX10_actOfDeal : MethodName := ⟨RX10, "actOfDeal", "(I)I"⟩
abbrev cX10_attempt : ByteArray := prog_1_method_50_code
def yX10_attempt : MethodName := ⟨RX10, "attempt", "(IIII)I"⟩
abbrev cX10_attemptSum : ByteArray := prog_1_method_51_code
def yX10_attemptSum : MethodName := ⟨RX10, "attemptSum", "(III)I"⟩
abbrev cX10_attemptDraw : ByteArray := prog_1_method_52_code
def yX10_attemptDraw : MethodName := ⟨RX10, "attemptDraw", "()I"⟩
abbrev cX10_settle : ByteArray := prog_1_method_53_code
def yX10_settle : MethodName := ⟨RX10, "settle", "(I)I"⟩
abbrev cX10_forget : ByteArray := prog_1_method_54_code
def yX10_forget : MethodName := ⟨RX10, "forget", "()V"⟩
abbrev cX10_knownMinors : ByteArray := prog_1_method_55_code
def yX10_knownMinors : MethodName := ⟨RX10, "knownMinors", "()LUnimodularTables$Minors;"⟩
abbrev cX10_knownTree : ByteArray := prog_1_method_56_code
def yX10_knownTree : MethodName := ⟨RX10, "knownTree", "(I)LUnimodularTables$Tree;"⟩
abbrev cX10_knownSigns : ByteArray := prog_1_method_57_code
def yX10_knownSigns : MethodName := ⟨RX10, "knownSigns", "()LUnimodularTables$Table;"⟩
abbrev cX10_isTotal : ByteArray := prog_1_method_58_code
def yX10_isTotal : MethodName := ⟨RX10, "isTotal", "(LUnimodularTables$Table;)Z"⟩
abbrev cX10_firstMend : ByteArray := prog_1_method_59_code
def yX10_firstMend : MethodName := ⟨RX10, "firstMend", "()I"⟩
abbrev cX10_valueOfSign : ByteArray := prog_1_method_60_code
def yX10_valueOfSign : MethodName := ⟨RX10, "valueOfSign", "(I)I"⟩
abbrev cX10_isBeyond : ByteArray := prog_1_method_61_code
def yX10_isBeyond : MethodName := ⟨RX10, "isBeyond", "(I)Z"⟩
abbrev cX10_isIn : ByteArray := prog_1_method_62_code
def yX10_isIn : MethodName := ⟨RX10, "isIn", "(II)Z"⟩
def RX11 : String := "UnimodularTablesModel"
def TX11 : u_T := fun k => match k with
  | 0 => ("UnimodularTablesModel", "thrown", "I", false)
  | 1 => ("UnimodularTablesModel", "tape", "[B", true)
  | 2 => ("UnimodularTablesModel", "length", "I", false)
  | 3 => ("UnimodularTablesModel", "at", "I", false)
  | 4 => ("UnimodularTablesModel", "fault", "I", false)
  | 5 => ("UnimodularTablesModel", "now", "[I", true)
  | 6 => ("UnimodularTablesModel", "read", "[I", true)
  | 7 => ("UnimodularTablesModel", "trial", "[I", true)
  | 8 => ("UnimodularTablesModel", "kept", "[I", true)
  | 9 => ("UnimodularTablesModel", "plan", "[I", true)
  | 10 => ("UnimodularTablesModel", "planLong", "[I", true)
  | 11 => ("UnimodularTablesModel", "status", "[I", true)
  | 12 => ("UnimodularTablesModel", "keptMany", "I", false)
  | 13 => ("UnimodularTablesModel", "plans", "I", false)
  | 14 => ("UnimodularTablesModel", "undoRow", "[I", true)
  | 15 => ("UnimodularTablesModel", "acts", "I", false)
  | 16 => ("UnimodularTablesModel", "dets", "[I", true)
  | 17 => ("UnimodularTablesModel", "from", "[I", true)
  | 18 => ("UnimodularTablesModel", "to", "[I", true)
  | 19 => ("UnimodularTablesModel", "treeRow", "[I", true)
  | 20 => ("UnimodularTablesModel", "walk", "[I", true)
  | 21 => ("UnimodularTablesModel", "walkLong", "I", false)
  | 22 => ("UnimodularTablesModel", "part", "[I", true)
  | 23 => ("UnimodularTablesModel", "steps", "[I", true)
  | 24 => ("UnimodularTablesModel", "sign", "[I", true)
  | 25 => ("UnimodularTablesModel", "factor", "[I", true)
  | 26 => ("UnimodularTablesModel", "goal", "[I", true)
  | 27 => ("UnimodularTablesModel", "laid", "[I", true)
  | 28 => ("UnimodularTablesModel", "rowsLaid", "[I", true)
  | 29 => ("UnimodularTablesModel", "columnsLaid", "[I", true)
  | 30 => ("UnimodularTablesModel", "apart", "[I", true)
  | 31 => ("UnimodularTablesModel", "x", "J", false)
  | 32 => ("UnimodularTablesModel", "imageRow", "[I", true)
  | 33 => ("UnimodularTablesModel", "imageKept", "I", false)
  | _ => ("UnimodularTablesModel", "hasImage", "Z", false)
def tyX11 : Nat → FieldType := fun k => match k with
  | 0 => .int
  | 1 => .array .byte
  | 2 => .int
  | 3 => .int
  | 4 => .int
  | 5 => .array .int
  | 6 => .array .int
  | 7 => .array .int
  | 8 => .array .int
  | 9 => .array .int
  | 10 => .array .int
  | 11 => .array .int
  | 12 => .int
  | 13 => .int
  | 14 => .array .int
  | 15 => .int
  | 16 => .array .int
  | 17 => .array .int
  | 18 => .array .int
  | 19 => .array .int
  | 20 => .array .int
  | 21 => .int
  | 22 => .array .int
  | 23 => .array .int
  | 24 => .array .int
  | 25 => .array .int
  | 26 => .array .int
  | 27 => .array .int
  | 28 => .array .int
  | 29 => .array .int
  | 30 => .array .int
  | 31 => .long
  | 32 => .array .int
  | 33 => .int
  | _ => .boolean
abbrev wsX110 : List Cond := u_ws RX11 TX11 35
theorem nmX11 : ∀ a, a < 35 → ∀ b, b < 35 → a ≠ b → (TX11 a).2.1 ≠ (TX11 b).2.1 := by decide +kernel
theorem tyX11_ok : ∀ k, k < 35 → parseFieldDescriptor (TX11 k).2.2.1 = some (tyX11 k) := by decide +kernel
abbrev cX11_init : ByteArray := prog_13_method_1_code
def yX11_init : MethodName := ⟨RX11, "<init>", "()V"⟩
abbrev cX11_thrown : ByteArray := prog_13_method_2_code
def yX11_thrown : MethodName := ⟨RX11, "thrown", "()I"⟩
abbrev cX11_isIn : ByteArray := prog_13_method_3_code
def yX11_isIn : MethodName := ⟨RX11, "isIn", "(JJJ)Z"⟩
abbrev cX11_has : ByteArray := prog_13_method_4_code
def yX11_has : MethodName := ⟨RX11, "has", "(II)Z"⟩
abbrev cX11_sizeOf : ByteArray := prog_13_method_5_code
def yX11_sizeOf : MethodName := ⟨RX11, "sizeOf", "(I)I"⟩
abbrev cX11_bytesOf : ByteArray := prog_13_method_6_code
def yX11_bytesOf : MethodName := ⟨RX11, "bytesOf", "(I)I"⟩
abbrev cX11_brings : ByteArray := prog_13_method_7_code
def yX11_brings : MethodName := ⟨RX11, "brings", "(I)V"⟩
abbrev cX11_feed : ByteArray := prog_13_method_8_code
def yX11_feed : MethodName := ⟨RX11, "feed", "(IIIII)I"⟩
abbrev cX11_end : ByteArray := prog_13_method_9_code
def yX11_end : MethodName := ⟨RX11, "end", "(I)Z"⟩
abbrev cX11_here : ByteArray := prog_13_method_10_code
def yX11_here : MethodName := ⟨RX11, "here", "()I"⟩
abbrev cX11_look : ByteArray := prog_13_method_11_code
def yX11_look : MethodName := ⟨RX11, "look", "()I"⟩
abbrev cX11_fails : ByteArray := prog_13_method_12_code
def yX11_fails : MethodName := ⟨RX11, "fails", "()V"⟩
abbrev cX11_spotOf : ByteArray := prog_13_method_13_code
def yX11_spotOf : MethodName := ⟨RX11, "spotOf", "(Ljava/lang/String;I)I"⟩
abbrev cX11_readRow : ByteArray := prog_13_method_14_code
def yX11_readRow : MethodName := ⟨RX11, "readRow", "()V"⟩
abbrev cX11_readTable : ByteArray := prog_13_method_15_code
def yX11_readTable : MethodName := ⟨RX11, "readTable", "()V"⟩
abbrev cX11_digit : ByteArray := prog_13_method_16_code
def yX11_digit : MethodName := ⟨RX11, "digit", "()I"⟩
abbrev cX11_readStep : ByteArray := prog_13_method_17_code
def yX11_readStep : MethodName := ⟨RX11, "readStep", "(I)V"⟩
abbrev cX11_readPlan : ByteArray := prog_13_method_18_code
def yX11_readPlan : MethodName := ⟨RX11, "readPlan", "()V"⟩
abbrev cX11_fault : ByteArray := prog_13_method_19_code
def yX11_fault : MethodName := ⟨RX11, "fault", "(I)I"⟩
abbrev cX11_text : ByteArray := prog_13_method_20_code
def yX11_text : MethodName := ⟨RX11, "text", "(I)I"⟩
abbrev cX11_copy : ByteArray := prog_13_method_21_code
def yX11_copy : MethodName := ⟨RX11, "copy", "([I[I)V"⟩
abbrev cX11_isCell : ByteArray := prog_13_method_22_code
def yX11_isCell : MethodName := ⟨RX11, "isCell", "([III)Z"⟩
abbrev cX11_entry : ByteArray := prog_13_method_23_code
def yX11_entry : MethodName := ⟨RX11, "entry", "(II)I"⟩
abbrev cX11_remember : ByteArray := prog_13_method_24_code
def yX11_remember : MethodName := ⟨RX11, "remember", "()V"⟩
abbrev cX11_refused : ByteArray := prog_13_method_25_code
def yX11_refused : MethodName := ⟨RX11, "refused", "(I)I"⟩
abbrev cX11_change : ByteArray := prog_13_method_26_code
def yX11_change : MethodName := ⟨RX11, "change", "(III)I"⟩
abbrev cX11_canTurn : ByteArray := prog_13_method_27_code
def yX11_canTurn : MethodName := ⟨RX11, "canTurn", "([III)Z"⟩
abbrev cX11_stops : ByteArray := prog_13_method_28_code
def yX11_stops : MethodName := ⟨RX11, "stops", "([IIII)I"⟩
abbrev cX11_swaps : ByteArray := prog_13_method_29_code
def yX11_swaps : MethodName := ⟨RX11, "swaps", "([III)V"⟩
abbrev cX11_does : ByteArray := prog_13_method_30_code
def yX11_does : MethodName := ⟨RX11, "does", "([IIII)V"⟩
abbrev cX11_deal : ByteArray := prog_13_method_31_code
def yX11_deal : MethodName := ⟨RX11, "deal", "(III)I"⟩
abbrev cX11_keep : ByteArray := prog_13_method_32_code
def yX11_keep : MethodName := ⟨RX11, "keep", "()I"⟩
abbrev cX11_isKept : ByteArray := prog_13_method_33_code
def yX11_isKept : MethodName := ⟨RX11, "isKept", "(I)Z"⟩
abbrev cX11_keptAt : ByteArray := prog_13_method_34_code
def yX11_keptAt : MethodName := ⟨RX11, "keptAt", "(III)I"⟩
abbrev cX11_kept : ByteArray := prog_13_method_35_code
def yX11_kept : MethodName := ⟨RX11, "kept", "(III)I"⟩
abbrev cX11_join : ByteArray := prog_13_method_36_code
def yX11_join : MethodName := ⟨RX11, "join", "(III)I"⟩
abbrev cX11_undo : ByteArray := prog_13_method_37_code
def yX11_undo : MethodName := ⟨RX11, "undo", "()I"⟩
abbrev cX11_laysDets : ByteArray := prog_13_method_38_code
def yX11_laysDets : MethodName := ⟨RX11, "laysDets", "([I)V"⟩
abbrev cX11_isSquare : ByteArray := prog_13_method_39_code
def yX11_isSquare : MethodName := ⟨RX11, "isSquare", "([III)Z"⟩
abbrev cX11_isTotal : ByteArray := prog_13_method_40_code
def yX11_isTotal : MethodName := ⟨RX11, "isTotal", "([I)Z"⟩
abbrev cX11_det : ByteArray := prog_13_method_41_code
def yX11_det : MethodName := ⟨RX11, "det", "(II)I"⟩
abbrev cX11_squares : ByteArray := prog_13_method_42_code
def yX11_squares : MethodName := ⟨RX11, "squares", "(II)I"⟩
abbrev cX11_total : ByteArray := prog_13_method_43_code
def yX11_total : MethodName := ⟨RX11, "total", "()I"⟩
abbrev cX11_witness : ByteArray := prog_13_method_44_code
def yX11_witness : MethodName := ⟨RX11, "witness", "(I)I"⟩
abbrev cX11_isHalf : ByteArray := prog_13_method_45_code
def yX11_isHalf : MethodName := ⟨RX11, "isHalf", "(II)Z"⟩
abbrev cX11_halfOf : ByteArray := prog_13_method_46_code
def yX11_halfOf : MethodName := ⟨RX11, "halfOf", "(I)I"⟩
abbrev cX11_halves : ByteArray := prog_13_method_47_code
def yX11_halves : MethodName := ⟨RX11, "halves", "(I)I"⟩
abbrev cX11_unhalved : ByteArray := prog_13_method_48_code
def yX11_unhalved : MethodName := ⟨RX11, "unhalved", "()I"⟩
abbrev cX11_isWay : ByteArray := prog_13_method_49_code
def yX11_isWay : MethodName := ⟨RX11, "isWay", "([IIII)Z"⟩
abbrev cX11_headOf : ByteArray := prog_13_method_50_code
def yX11_headOf : MethodName := ⟨RX11, "headOf", "([IIII)I"⟩
abbrev cX11_tailOf : ByteArray := prog_13_method_51_code
def yX11_tailOf : MethodName := ⟨RX11, "tailOf", "([IIII)I"⟩
abbrev cX11_areWays : ByteArray := prog_13_method_52_code
def yX11_areWays : MethodName := ⟨RX11, "areWays", "([III)Z"⟩
abbrev cX11_endsAt : ByteArray := prog_13_method_53_code
def yX11_endsAt : MethodName := ⟨RX11, "endsAt", "(III)I"⟩
abbrev cX11_bends : ByteArray := prog_13_method_54_code
def yX11_bends : MethodName := ⟨RX11, "bends", "(IIII)V"⟩
abbrev cX11_grows : ByteArray := prog_13_method_55_code
def yX11_grows : MethodName := ⟨RX11, "grows", "([III)Z"⟩
abbrev cX11_laysSide : ByteArray := prog_13_method_56_code
def yX11_laysSide : MethodName := ⟨RX11, "laysSide", "(I)V"⟩
abbrev cX11_hasTree : ByteArray := prog_13_method_57_code
def yX11_hasTree : MethodName := ⟨RX11, "hasTree", "(I)Z"⟩
abbrev cX11_network : ByteArray := prog_13_method_58_code
def yX11_network : MethodName := ⟨RX11, "network", "(I)I"⟩
abbrev cX11_arc : ByteArray := prog_13_method_59_code
def yX11_arc : MethodName := ⟨RX11, "arc", "(III)I"⟩
abbrev cX11_way : ByteArray := prog_13_method_60_code
def yX11_way : MethodName := ⟨RX11, "way", "(III)I"⟩
abbrev cX11_isTold : ByteArray := prog_13_method_61_code
def yX11_isTold : MethodName := ⟨RX11, "isTold", "(II)Z"⟩
abbrev cX11_areTold : ByteArray := prog_13_method_62_code
def yX11_areTold : MethodName := ⟨RX11, "areTold", "(II)Z"⟩
abbrev cX11_signBetween : ByteArray := prog_13_method_63_code
def yX11_signBetween : MethodName := ⟨RX11, "signBetween", "(II)I"⟩
abbrev cX11_laysSteps : ByteArray := prog_13_method_64_code
def yX11_laysSteps : MethodName := ⟨RX11, "laysSteps", "(I)V"⟩
abbrev cX11_laysSigns : ByteArray := prog_13_method_65_code
def yX11_laysSigns : MethodName := ⟨RX11, "laysSigns", "()V"⟩
abbrev cX11_signed : ByteArray := prog_13_method_66_code
def yX11_signed : MethodName := ⟨RX11, "signed", "(II)I"⟩
abbrev cX11_regular : ByteArray := prog_13_method_67_code
def yX11_regular : MethodName := ⟨RX11, "regular", "()I"⟩
abbrev cX11_isScaled : ByteArray := prog_13_method_68_code
def yX11_isScaled : MethodName := ⟨RX11, "isScaled", "([I[I)Z"⟩
abbrev cX11_scaled : ByteArray := prog_13_method_69_code
def yX11_scaled : MethodName := ⟨RX11, "scaled", "(I)I"⟩
abbrev cX11_isLaid : ByteArray := prog_13_method_70_code
def yX11_isLaid : MethodName := ⟨RX11, "isLaid", "()Z"⟩
abbrev cX11_doColumns : ByteArray := prog_13_method_71_code
def yX11_doColumns : MethodName := ⟨RX11, "doColumns", "(II)Z"⟩
abbrev cX11_doRows : ByteArray := prog_13_method_72_code
def yX11_doRows : MethodName := ⟨RX11, "doRows", "(II)Z"⟩
abbrev cX11_special : ByteArray := prog_13_method_73_code
def yX11_special : MethodName := ⟨RX11, "special", "()I"⟩
abbrev cX11_laysParts : ByteArray := prog_13_method_74_code
def yX11_laysParts : MethodName := ⟨RX11, "laysParts", "()V"⟩
abbrev cX11_isThere : ByteArray := prog_13_method_75_code
def yX11_isThere : MethodName := ⟨RX11, "isThere", "(I)Z"⟩
abbrev cX11_block : ByteArray := prog_13_method_76_code
def yX11_block : MethodName := ⟨RX11, "block", "(II)I"⟩
abbrev cX11_rank : ByteArray := prog_13_method_77_code
def yX11_rank : MethodName := ⟨RX11, "rank", "(I)I"⟩
abbrev cX11_bases : ByteArray := prog_13_method_78_code
def yX11_bases : MethodName := ⟨RX11, "bases", "()I"⟩
abbrev cX11_isTotalWith : ByteArray := prog_13_method_79_code
def yX11_isTotalWith : MethodName := ⟨RX11, "isTotalWith", "(II)Z"⟩
abbrev cX11_mends : ByteArray := prog_13_method_80_code
def yX11_mends : MethodName := ⟨RX11, "mends", "()I"⟩
abbrev cX11_fragile : ByteArray := prog_13_method_81_code
def yX11_fragile : MethodName := ⟨RX11, "fragile", "()I"⟩
abbrev cX11_fills : ByteArray := prog_13_method_82_code
def yX11_fills : MethodName := ⟨RX11, "fills", "(II)I"⟩
abbrev cX11_rowsOf : ByteArray := prog_13_method_83_code
def yX11_rowsOf : MethodName := ⟨RX11, "rowsOf", "(I)I"⟩
abbrev cX11_doPack : ByteArray := prog_13_method_84_code
def yX11_doPack : MethodName := ⟨RX11, "doPack", "(I)Z"⟩
abbrev cX11_doCover : ByteArray := prog_13_method_85_code
def yX11_doCover : MethodName := ⟨RX11, "doCover", "(I)Z"⟩
abbrev cX11_pack : ByteArray := prog_13_method_86_code
def yX11_pack : MethodName := ⟨RX11, "pack", "(I)I"⟩
abbrev cX11_adjoint : ByteArray := prog_13_method_87_code
def yX11_adjoint : MethodName := ⟨RX11, "adjoint", "(II)I"⟩
abbrev cX11_cycle : ByteArray := prog_13_method_88_code
def yX11_cycle : MethodName := ⟨RX11, "cycle", "()I"⟩
abbrev cX11_isPlan : ByteArray := prog_13_method_89_code
def yX11_isPlan : MethodName := ⟨RX11, "isPlan", "(I)Z"⟩
abbrev cX11_step : ByteArray := prog_13_method_90_code
def yX11_step : MethodName := ⟨RX11, "step", "(III)I"⟩
abbrev cX11_canStep : ByteArray := prog_13_method_91_code
def yX11_canStep : MethodName := ⟨RX11, "canStep", "([II)Z"⟩
abbrev cX11_doesStep : ByteArray := prog_13_method_92_code
def yX11_doesStep : MethodName := ⟨RX11, "doesStep", "([II)V"⟩
abbrev cX11_run : ByteArray := prog_13_method_93_code
def yX11_run : MethodName := ⟨RX11, "run", "(II)I"⟩
abbrev cX11_perform : ByteArray := prog_13_method_94_code
def yX11_perform : MethodName := ⟨RX11, "perform", "(I)I"⟩
abbrev cX11_draw : ByteArray := prog_13_method_95_code
def yX11_draw : MethodName := ⟨RX11, "draw", "(I)I"⟩
abbrev cX11_draws : ByteArray := prog_13_method_96_code
def yX11_draws : MethodName := ⟨RX11, "draws", "(IJ)I"⟩
abbrev cX11_status : ByteArray := prog_13_method_97_code
def yX11_status : MethodName := ⟨RX11, "status", "(I)I"⟩
abbrev cX11_image : ByteArray := prog_13_method_98_code
def yX11_image : MethodName := ⟨RX11, "image", "()I"⟩
abbrev cX11_back : ByteArray := prog_13_method_99_code
def yX11_back : MethodName := ⟨RX11, "back", "()I"⟩
abbrev cX11_count : ByteArray := prog_13_method_100_code
def yX11_count : MethodName := ⟨RX11, "count", "(I)I"⟩
def RJx145de : String := "java/io/Serializable"
def TJx145de : u_T := fun k => match k with
  | _ => ("", "", "", false)
def tyJx145de : Nat → FieldType := fun k => match k with
  | _ => .int
abbrev wsJx145de0 : List Cond := u_ws RJx145de TJx145de 0
theorem nmJx145de : ∀ a, a < 0 → ∀ b, b < 0 → a ≠ b → (TJx145de a).2.1 ≠ (TJx145de b).2.1 := by decide +kernel
theorem tyJx145de_ok : ∀ k, k < 0 → parseFieldDescriptor (TJx145de k).2.2.1 = some (tyJx145de k) := by decide +kernel
def RJx9f9b0 : String := "java/lang/CharSequence"
def TJx9f9b0 : u_T := fun k => match k with
  | _ => ("", "", "", false)
def tyJx9f9b0 : Nat → FieldType := fun k => match k with
  | _ => .int
abbrev wsJx9f9b00 : List Cond := u_ws RJx9f9b0 TJx9f9b0 0
theorem nmJx9f9b0 : ∀ a, a < 0 → ∀ b, b < 0 → a ≠ b → (TJx9f9b0 a).2.1 ≠ (TJx9f9b0 b).2.1 := by decide +kernel
theorem tyJx9f9b0_ok : ∀ k, k < 0 → parseFieldDescriptor (TJx9f9b0 k).2.2.1 = some (tyJx9f9b0 k) := by decide +kernel
def RJ11 : String := "java/lang/Character"
def TJ11 : u_T := fun k => match k with
  | _ => ("", "", "", false)
def tyJ11 : Nat → FieldType := fun k => match k with
  | _ => .int
abbrev wsJ110 : List Cond := u_ws RJ11 TJ11 0
theorem nmJ11 : ∀ a, a < 0 → ∀ b, b < 0 → a ≠ b → (TJ11 a).2.1 ≠ (TJ11 b).2.1 := by decide +kernel
theorem tyJ11_ok : ∀ k, k < 0 → parseFieldDescriptor (TJ11 k).2.2.1 = some (tyJ11 k) := by decide +kernel
abbrev cJ11_isValidCodePoint_9a6ad : ByteArray := prog_16_method_11_code
def yJ11_isValidCodePoint_9a6ad : MethodName := ⟨RJ11, "isValidCodePoint", "(I)Z"⟩
abbrev cJ11_highSurrogate_5068e : ByteArray := prog_16_method_28_code
def yJ11_highSurrogate_5068e : MethodName := ⟨RJ11, "highSurrogate", "(I)C"⟩
abbrev cJ11_lowSurrogate_5068e : ByteArray := prog_16_method_29_code
def yJ11_lowSurrogate_5068e : MethodName := ⟨RJ11, "lowSurrogate", "(I)C"⟩
def RJxb160c : String := "java/lang/Comparable"
def TJxb160c : u_T := fun k => match k with
  | _ => ("", "", "", false)
def tyJxb160c : Nat → FieldType := fun k => match k with
  | _ => .int
abbrev wsJxb160c0 : List Cond := u_ws RJxb160c TJxb160c 0
theorem nmJxb160c : ∀ a, a < 0 → ∀ b, b < 0 → a ≠ b → (TJxb160c a).2.1 ≠ (TJxb160c b).2.1 := by decide +kernel
theorem tyJxb160c_ok : ∀ k, k < 0 → parseFieldDescriptor (TJxb160c k).2.2.1 = some (tyJxb160c k) := by decide +kernel
def RJ6 : String := "java/lang/Integer"
def TJ6 : u_T := fun k => match k with
  | _ => ("", "", "", false)
def tyJ6 : Nat → FieldType := fun k => match k with
  | _ => .int
abbrev wsJ60 : List Cond := u_ws RJ6 TJ6 0
theorem nmJ6 : ∀ a, a < 0 → ∀ b, b < 0 → a ≠ b → (TJ6 a).2.1 ≠ (TJ6 b).2.1 := by decide +kernel
theorem tyJ6_ok : ∀ k, k < 0 → parseFieldDescriptor (TJ6 k).2.2.1 = some (tyJ6 k) := by decide +kernel
abbrev cJ6_bitCount_0f7a4 : ByteArray := prog_19_method_49_code
def yJ6_bitCount_0f7a4 : MethodName := ⟨RJ6, "bitCount", "(I)I"⟩
def RJ9 : String := "java/lang/Math"
def TJ9 : u_T := fun k => match k with
  | _ => ("", "", "", false)
def tyJ9 : Nat → FieldType := fun k => match k with
  | _ => .int
abbrev wsJ90 : List Cond := u_ws RJ9 TJ9 0
theorem nmJ9 : ∀ a, a < 0 → ∀ b, b < 0 → a ≠ b → (TJ9 a).2.1 ≠ (TJ9 b).2.1 := by decide +kernel
theorem tyJ9_ok : ∀ k, k < 0 → parseFieldDescriptor (TJ9 k).2.2.1 = some (tyJ9 k) := by decide +kernel
abbrev cJ9_abs_0f7a4 : ByteArray := prog_20_method_59_code
def yJ9_abs_0f7a4 : MethodName := ⟨RJ9, "abs", "(I)I"⟩
abbrev cJ9_max_7cf53 : ByteArray := prog_20_method_65_code
def yJ9_max_7cf53 : MethodName := ⟨RJ9, "max", "(II)I"⟩
abbrev cJ9_min_7cf53 : ByteArray := prog_20_method_69_code
def yJ9_min_7cf53 : MethodName := ⟨RJ9, "min", "(II)I"⟩
def RJ0 : String := "java/lang/String"
def TJ0 : u_T := fun k => match k with
  | _ => ("", "", "", false)
def tyJ0 : Nat → FieldType := fun k => match k with
  | _ => .int
abbrev wsJ00 : List Cond := u_ws RJ0 TJ0 0
theorem nmJ0 : ∀ a, a < 0 → ∀ b, b < 0 → a ≠ b → (TJ0 a).2.1 ≠ (TJ0 b).2.1 := by decide +kernel
theorem tyJ0_ok : ∀ k, k < 0 → parseFieldDescriptor (TJ0 k).2.2.1 = some (tyJ0 k) := by decide +kernel
abbrev cJ0_length_8abf5 : ByteArray := prog_22_method_54_code
def yJ0_length_8abf5 : MethodName := ⟨RJ0, "length", "()I"⟩
abbrev cJ0_charAt_5068e : ByteArray := prog_22_method_56_code
def yJ0_charAt_5068e : MethodName := ⟨RJ0, "charAt", "(I)C"⟩
abbrev cJ0_indexOf_0f7a4 : ByteArray := prog_22_method_79_code
def yJ0_indexOf_0f7a4 : MethodName := ⟨RJ0, "indexOf", "(I)I"⟩
abbrev cJ0_indexOf_7cf53 : ByteArray := prog_22_method_80_code
def yJ0_indexOf_7cf53 : MethodName := ⟨RJ0, "indexOf", "(II)I"⟩
abbrev cJ0_coder_7d493 : ByteArray := prog_22_method_152_code
def yJ0_coder_7d493 : MethodName := ⟨RJ0, "coder", "()B"⟩
abbrev cJ0_isLatin1_aae02 : ByteArray := prog_22_method_154_code
def yJ0_isLatin1_aae02 : MethodName := ⟨RJ0, "isLatin1", "()Z"⟩
abbrev cJ0_checkIndex_df160 : ByteArray := prog_22_method_155_code
def yJ0_checkIndex_df160 : MethodName := ⟨RJ0, "checkIndex", "(II)V"⟩
abbrev cJ0_checkBoundsBeginEnd_23922 : ByteArray := prog_22_method_158_code
def yJ0_checkBoundsBeginEnd_23922 : MethodName := ⟨RJ0, "checkBoundsBeginEnd", "(III)V"⟩
def RJ1 : String := "java/lang/StringLatin1"
def TJ1 : u_T := fun k => match k with
  | _ => ("", "", "", false)
def tyJ1 : Nat → FieldType := fun k => match k with
  | _ => .int
abbrev wsJ10 : List Cond := u_ws RJ1 TJ1 0
theorem nmJ1 : ∀ a, a < 0 → ∀ b, b < 0 → a ≠ b → (TJ1 a).2.1 ≠ (TJ1 b).2.1 := by decide +kernel
theorem tyJ1_ok : ∀ k, k < 0 → parseFieldDescriptor (TJ1 k).2.2.1 = some (tyJ1 k) := by decide +kernel
abbrev cJ1_charAt_3b067 : ByteArray := prog_23_method_2_code
def yJ1_charAt_3b067 : MethodName := ⟨RJ1, "charAt", "([BI)C"⟩
abbrev cJ1_canEncode_9a6ad : ByteArray := prog_23_method_4_code
def yJ1_canEncode_9a6ad : MethodName := ⟨RJ1, "canEncode", "(I)Z"⟩
abbrev cJ1_indexOf_4cfef : ByteArray := prog_23_method_22_code
def yJ1_indexOf_4cfef : MethodName := ⟨RJ1, "indexOf", "([BIII)I"⟩
abbrev cJ1_indexOfChar_4cfef : ByteArray := prog_23_method_23_code
def yJ1_indexOfChar_4cfef : MethodName := ⟨RJ1, "indexOfChar", "([BIII)I"⟩
def RJ2 : String := "java/lang/StringUTF16"
def TJ2 : u_T := fun k => match k with
  | _ => ("", "", "", false)
def tyJ2 : Nat → FieldType := fun k => match k with
  | _ => .int
abbrev wsJ20 : List Cond := u_ws RJ2 TJ2 0
theorem nmJ2 : ∀ a, a < 0 → ∀ b, b < 0 → a ≠ b → (TJ2 a).2.1 ≠ (TJ2 b).2.1 := by decide +kernel
theorem tyJ2_ok : ∀ k, k < 0 → parseFieldDescriptor (TJ2 k).2.2.1 = some (tyJ2 k) := by decide +kernel
abbrev cJ2_getChar_3b067 : ByteArray := prog_24_method_5_code
def yJ2_getChar_3b067 : MethodName := ⟨RJ2, "getChar", "([BI)C"⟩
abbrev cJ2_length_9d52b : ByteArray := prog_24_method_6_code
def yJ2_length_9d52b : MethodName := ⟨RJ2, "length", "([B)I"⟩
abbrev cJ2_indexOf_4cfef : ByteArray := prog_24_method_40_code
def yJ2_indexOf_4cfef : MethodName := ⟨RJ2, "indexOf", "([BIII)I"⟩
abbrev cJ2_indexOfChar_4cfef : ByteArray := prog_24_method_47_code
def yJ2_indexOfChar_4cfef : MethodName := ⟨RJ2, "indexOfChar", "([BIII)I"⟩
abbrev cJ2_indexOfCharUnsafe_4cfef : ByteArray := prog_24_method_48_code
def yJ2_indexOfCharUnsafe_4cfef : MethodName := ⟨RJ2, "indexOfCharUnsafe", "([BIII)I"⟩
abbrev cJ2_indexOfSupplementary_4cfef : ByteArray := prog_24_method_49_code
def yJ2_indexOfSupplementary_4cfef : MethodName := ⟨RJ2, "indexOfSupplementary", "([BIII)I"⟩
abbrev cJ2_charAt_3b067 : ByteArray := prog_24_method_83_code
def yJ2_charAt_3b067 : MethodName := ⟨RJ2, "charAt", "([BI)C"⟩
abbrev cJ2_checkIndex_2214a : ByteArray := prog_24_method_91_code
def yJ2_checkIndex_2214a : MethodName := ⟨RJ2, "checkIndex", "(I[B)V"⟩
abbrev cJ2_checkBoundsBeginEnd_d044e : ByteArray := prog_24_method_93_code
def yJ2_checkBoundsBeginEnd_d044e : MethodName := ⟨RJ2, "checkBoundsBeginEnd", "(II[B)V"⟩
def RJ10 : String := "java/lang/System"
def TJ10 : u_T := fun k => match k with
  | _ => ("", "", "", false)
def tyJ10 : Nat → FieldType := fun k => match k with
  | _ => .int
abbrev wsJ100 : List Cond := u_ws RJ10 TJ10 0
theorem nmJ10 : ∀ a, a < 0 → ∀ b, b < 0 → a ≠ b → (TJ10 a).2.1 ≠ (TJ10 b).2.1 := by decide +kernel
theorem tyJ10_ok : ∀ k, k < 0 → parseFieldDescriptor (TJ10 k).2.2.1 = some (tyJ10 k) := by decide +kernel
def RJxfd54e : String := "java/lang/constant/Constable"
def TJxfd54e : u_T := fun k => match k with
  | _ => ("", "", "", false)
def tyJxfd54e : Nat → FieldType := fun k => match k with
  | _ => .int
abbrev wsJxfd54e0 : List Cond := u_ws RJxfd54e TJxfd54e 0
theorem nmJxfd54e : ∀ a, a < 0 → ∀ b, b < 0 → a ≠ b → (TJxfd54e a).2.1 ≠ (TJxfd54e b).2.1 := by decide +kernel
theorem tyJxfd54e_ok : ∀ k, k < 0 → parseFieldDescriptor (TJxfd54e k).2.2.1 = some (tyJxfd54e k) := by decide +kernel
def RJx3cf43 : String := "java/lang/constant/ConstantDesc"
def TJx3cf43 : u_T := fun k => match k with
  | _ => ("", "", "", false)
def tyJx3cf43 : Nat → FieldType := fun k => match k with
  | _ => .int
abbrev wsJx3cf430 : List Cond := u_ws RJx3cf43 TJx3cf43 0
theorem nmJx3cf43 : ∀ a, a < 0 → ∀ b, b < 0 → a ≠ b → (TJx3cf43 a).2.1 ≠ (TJx3cf43 b).2.1 := by decide +kernel
theorem tyJx3cf43_ok : ∀ k, k < 0 → parseFieldDescriptor (TJx3cf43 k).2.2.1 = some (tyJx3cf43 k) := by decide +kernel
def RJ3 : String := "jdk/internal/util/Preconditions"
def TJ3 : u_T := fun k => match k with
  | _ => ("", "", "", false)
def tyJ3 : Nat → FieldType := fun k => match k with
  | _ => .int
abbrev wsJ30 : List Cond := u_ws RJ3 TJ3 0
theorem nmJ3 : ∀ a, a < 0 → ∀ b, b < 0 → a ≠ b → (TJ3 a).2.1 ≠ (TJ3 b).2.1 := by decide +kernel
theorem tyJ3_ok : ∀ k, k < 0 → parseFieldDescriptor (TJ3 k).2.2.1 = some (tyJ3 k) := by decide +kernel
abbrev cJ3_checkIndex_8e157 : ByteArray := prog_30_method_11_code
def yJ3_checkIndex_8e157 : MethodName := ⟨RJ3, "checkIndex", "(IILjava/util/function/BiFunction;)I"⟩
abbrev cJ3_checkFromToIndex_8c36e : ByteArray := prog_30_method_12_code
def yJ3_checkFromToIndex_8c36e : MethodName := ⟨RJ3, "checkFromToIndex", "(IIILjava/util/function/BiFunction;)I"⟩
def RL : String := "UnimodularTablesLaw"
abbrev cL_entry : ByteArray := method_3_code
def yL_entry : MethodName := ⟨RL, "entry", "(LUnimodularTables;II[J)I"⟩
abbrev cL_law : ByteArray := code
def yL_law : MethodName := ⟨RL, "law", "([I)Z"⟩
abbrev vwCl : List vw_C := [(RX0, TX0, 1), (RX1, TX1, 6), (RX2, TX2, 3), (RX3, TX3, 3), (RX4, TX4, 5), (RX5, TX5, 7), (RX6, TX6, 8), (RX7, TX7, 3), (RX8, TX8, 2), (RX9, TX9, 5), (RX10, TX10, 19), (RX11, TX11, 35)]

/-- the words that a callee may take over, and the nest links -/
def lw_gl : List Cond := lw_tbl.filter goodWord
def is_nest : Cond → Bool
  | .fieldLinkNest _ _ _ _ _ _ => true
  | .methodLinkNest _ _ _ _ => true
  | _ => false
def lw_nl : List Cond := lw_tbl.filter is_nest
theorem gm {w : Cond} (n : Nat) (h : lw_tbl[n]? = some w) (hg : goodWord w = true) : w ∈ lw_gl := List.mem_filter.mpr ⟨List.mem_of_getElem? h, hg⟩
theorem nmm {w : Cond} (n : Nat) (h : lw_tbl[n]? = some w) (hg : is_nest w = true) : w ∈ lw_nl := List.mem_filter.mpr ⟨List.mem_of_getElem? h, hg⟩
abbrev mi : Type := MethodName × ByteArray × Nat × Option FieldType
/-- a class's layout, its fields' types and names -/
def CF (C : String) (T : u_T) (N : Nat) : Prop := (∀ w ∈ u_ws C T N, w ∈ lw_gl) ∧ (∃ ty : Nat → FieldType, ∀ k, k < N → parseFieldDescriptor (T k).2.2.1 = some (ty k)) ∧ ∀ a, a < N → ∀ b, b < N → a ≠ b → (T a).2.1 ≠ (T b).2.1
/-- a field's link: own class and pool index; the class by its number, the field by its place, final or not, its type -/
def FL (own : String) (idx ci k : Nat) (fin : Bool) (ty : FieldType) : Prop := ∃ (C : String) (T : u_T) (N : Nat), vwCl[ci]? = some (C, T, N) ∧ CF C T N ∧ k < N ∧ (T k).2.2.2 = fin ∧ parseFieldDescriptor (T k).2.2.1 = some ty ∧
  ((Cond.fieldLink own idx (T k).1 (T k).2.1 (T k).2.2.1 ∈ lw_gl ∧ (T k).1 = own) ∨ ∃ host : String, Cond.fieldLinkNest own idx (T k).1 (T k).2.1 (T k).2.2.1 host ∈ lw_nl)
def MI (m : mi) : Prop := plainName m.1.cls = true ∧ Cond.code m.1 m.2.1 m.2.2.1 m.2.2.2 ∈ lw_gl ∧ Cond.initialized m.1.cls ∈ lw_gl ∧ (m.1.cls ≠ "java/lang/invoke/MethodHandle" ∧ m.1.cls ≠ "java/lang/invoke/VarHandle") ∧ m.2.2.1 ≤ 40
def MV (m : mi) (n : Nat) : Prop := MI m ∧ Cond.instanceMethod m.1 ∈ lw_gl ∧ Cond.selects m.1.cls m.1 m.1 ∈ lw_gl ∧ (parseMethodDescriptor m.1.desc).map (fun d => d.parameters.length) = some n
def MS (m : mi) (n : Nat) : Prop := MI m ∧ Cond.static m.1 ∈ lw_gl ∧ (parseMethodDescriptor m.1.desc).map (fun d => d.parameters.length) = some n
def MN (m : mi) (n : Nat) : Prop := MI m ∧ m.1.name = "<init>" ∧ m.2.2.2 = none ∧ Cond.instanceMethod m.1 ∈ lw_gl ∧ (parseMethodDescriptor m.1.desc).map (fun d => d.parameters.length) = some n
def ML (own : String) (idx : Nat) (m : mi) : Prop := Cond.methodLink own idx m.1 ∈ lw_gl ∨ ∃ host : String, Cond.methodLinkNest own idx m.1 host ∈ lw_nl
end
section
/-! ===== the judgement: a method's frame over a world of numbered cells ===== -/
abbrev aE : Type := (Nat × vp_A) ⊕ (Nat × List Value)
abbrev aW : Type := Nat × (Nat → Option aE)
/-- classes, array classes, the places of the numbered cells, the heap at the law's start -/
abbrev aV : Type := va_G × (Nat → ClassId) × (Nat → Nat) × Heap
def rl (r : Nat → Nat) (v : Value) : Value := match v with
  | .ref a => .ref (r a)
  | u => u
def rA (r : Nat → Nat) (a : vp_A) : vp_A := (a.1, match a.2 with
  | .inl f => .inl f
  | .inr (.inl f) => .inr (.inl f)
  | .inr (.inr (.inl f)) => .inr (.inr (.inl f))
  | .inr (.inr (.inr (.inl f))) => .inr (.inr (.inr (.inl f)))
  | .inr (.inr (.inr (.inr f))) => .inr (.inr (.inr (.inr (fun j => (f j).map r)))))
def cE (V : aV) (c : aE) : va_E := match c with
  | .inl a => .inl (V.2.1 a.1, rA V.2.2.1 a.2)
  | .inr o => .inr (o.1, o.2.map (rl V.2.2.1))
def tys (V : aV) : List (ClassId × FieldType) := [(V.2.1 0, .int), (V.2.1 1, .byte), (V.2.1 2, .long), (V.2.1 3, .object RX7), (V.2.1 4, .object RX4)]
def HW (V : aV) (w : aW) (H : Heap) : Prop := H.size = V.2.2.1 w.1 ∧ 16 ≤ w.1 ∧ (∀ q, q < V.2.2.2.size → H[q]? = V.2.2.2[q]?) ∧ ∀ i c, w.2 i = some c → i < w.1 ∧ va_at V.1 vwCl (V.2.2.1 i, cE V c) H
def VOK (V : aV) : Prop := (∀ n, V.2.2.1 (16 + n) = V.2.2.2.size + n) ∧ ∀ i, i < 16 → V.2.2.1 i < V.2.2.2.size
/-- the String constants: whose, where, the text, its bytes -/
def kst : List (String × Nat × String × List Int32) := [
  (RX4, 51, "rcxypte", [114, 99, 120, 121, 112, 116, 101]),
  (RX10, 240, "+-00-/-+-00/0-+-0/00-+-/-00-+", [43, 45, 48, 48, 45, 47, 45, 43, 45, 48, 48, 47, 48, 45, 43, 45, 48, 47, 48, 48, 45, 43, 45, 47, 45, 48, 48, 45, 43]),
  (RX10, 246, "+++++/+++00/+0++0/+00++/++00+", [43, 43, 43, 43, 43, 47, 43, 43, 43, 48, 48, 47, 43, 48, 43, 43, 48, 47, 43, 48, 48, 43, 43, 47, 43, 43, 48, 48, 43]),
  (RX11, 116, "-0+", [45, 48, 43]),
  (RX11, 131, "rcxypte", [114, 99, 120, 121, 112, 116, 101]),
  (RX11, 300, "+-00--+-000-+-000-+--00-+", [43, 45, 48, 48, 45, 45, 43, 45, 48, 48, 48, 45, 43, 45, 48, 48, 48, 45, 43, 45, 45, 48, 48, 45, 43]),
  (RX11, 302, "++++++++00+0++0+00++++00+", [43, 43, 43, 43, 43, 43, 43, 43, 48, 48, 43, 48, 43, 43, 48, 43, 48, 48, 43, 43, 43, 43, 48, 48, 43])]
def fr (V : aV) : Nat → Prop := fun q => V.2.2.2.size ≤ q
def KY (V : aV) (s : State) : Prop := (∀ i, i < 7 → ∀ k, kst[i]? = some k → vk_R k.1 k.2.1 k.2.2.1 (V.2.2.1 (2 + i)) s ∧ ∃ av : Nat, vk_S 1 [k.2.2.2.length] [k.2.2.2] (fun _ => V.2.2.1 (2 + i)) (fun _ => av) (fr V) s V.2.2.2) ∧
  va_Z RX4 "SIGNS" "[I" (.ref (V.2.2.1 1)) (fr V) s V.2.2.2 ∧ va_T .int (V.2.2.1 1) 7 (fun j => .int (([2, 2, 3, 3, 3, 1, 4] : List Int32).getD j 0)) (fr V) s V.2.2.2 ∧ va_Z "java/lang/String" "COMPACT_STRINGS" "Z" (.int 1) (fr V) s V.2.2.2 ∧ va_Zq "jdk/internal/util/Preconditions" "SIOOBE_FORMATTER" "Ljava/util/function/BiFunction;" (fr V) s V.2.2.2
def KX (V : aV) (s : State) : Prop := va_K V.1 vwCl (tys V) s ∧ (∀ w ∈ lw_nl, va_Nw w s) ∧ KY V s
theorem is_nest_warm {w : Cond} (hw : is_nest w = true) {s U : State} (hW : s.WarmedH U.vm) (h : va_Nw w s) : va_Nw w U := by
  cases w <;> first | exact h.warmF hW | exact h.warmM hW | (exfalso; exact Bool.noConfusion hw)
theorem is_nest_same {w : Cond} (hw : is_nest w = true) {s U : State} (hW : s.vm = U.vm) (h : va_Nw w s) : va_Nw w U := by
  cases w <;> first | exact va_Nw.same rfl hW h | (exfalso; exact Bool.noConfusion hw)
theorem va_Zq.mv {C n d : String} {A : Nat → Prop} {u U : State} {H : Heap} (hvm : u.vm.Alike U.vm) (h : va_Zq C n d A u H) : va_Zq C n d A U H := h.elim (fun h => Or.inl (va_Z.moved hvm h)) (fun ⟨t, h⟩ => Or.inr ⟨t, va_Z.moved hvm h⟩)
theorem KY.moved {V : aV} {s U : State} (hW : s.WarmedH U.vm) (h : KY V s) : KY V U := by
  obtain ⟨h1, h2, h3, h4, h5⟩ := h
  refine ⟨fun i hi k hk => ?_, va_Z.moved hW.alike h2, va_T.moved hW.alike h3, va_Z.moved hW.alike h4, va_Zq.mv hW.alike h5⟩
  obtain ⟨a, av, b⟩ := h1 i hi k hk
  exact ⟨a.warm hW, av, b.moved hW.alike⟩
theorem KY.same {V : aV} {s U : State} (hW : s.vm = U.vm) (h : KY V s) : KY V U := by
  have al : s.vm.Alike U.vm := by rw [hW]; exact Vm.Alike.refl _
  obtain ⟨h1, h2, h3, h4, h5⟩ := h
  refine ⟨fun i hi k hk => ?_, va_Z.moved al h2, va_T.moved al h3, va_Z.moved al h4, va_Zq.mv al h5⟩
  obtain ⟨a, av, b⟩ := h1 i hi k hk
  exact ⟨a.same hW.symm, av, b.moved al⟩
theorem KX.moved {V : aV} {s U : State} (hW : s.WarmedH U.vm) (h : KX V s) : KX V U := ⟨va_K.moved hW.alike h.1, fun w hw => is_nest_warm (List.mem_filter.mp hw).2 hW (h.2.1 w hw), h.2.2.moved hW⟩
theorem KX.same {V : aV} {s U : State} (hW : s.vm = U.vm) (h : KX V s) : KX V U := ⟨va_K.moved (by rw [hW]; exact Vm.Alike.refl _) h.1, fun w hw => is_nest_same (List.mem_filter.mp hw).2 hW (h.2.1 w hw), h.2.2.same hW⟩
def aPc (V : aV) (as : List Value) (w : aW) : Array Value → State → Prop := fun v U => v = (as.map (rl V.2.2.1)).toArray ∧ HW V w U.heap ∧ KX V U
def aQc (V : aV) (Q : Option Value → aW → Prop) : Array Value → State → Outcome → State → Prop := fun _ _ o t => ∃ (r : Option Value) (w : aW), o = .returned (r.map (rl V.2.2.1)) ∧ Q r w ∧ HW V w t.heap
def wsOf (m : mi) : List Cond := .code m.1 m.2.1 m.2.2.1 m.2.2.2 :: lw_gl
def rmD (d mc ms : Nat) : Room := { frames := d, cells := mc, slots := ms, locals := 60 * d + 60 }
/-- a method's contract: depth, cells and slots that it makes; arguments, world; what holds behind it -/
def Mt (m : mi) (d mc ms : Nat) (as : List Value) (w : aW) (Q : Option Value → aW → Prop) : Prop := ∀ (l : Launch) (V : aV), VOK V → Met l m.1 (wsOf m) (rmD d mc ms) (aPc V as w) (aQc V Q) mc ms (fr V)
/-- all that stays while a method runs -/
abbrev aX : Type := Program × Launch × Env × Room × State × MethodId × Array Value × List Frame × Method × Code × (State → Prop) × aV
def lvl (r : Nat → Nat) : Nat → List (Option Value) → List (Nat × Value)
  | _, [] => []
  | i, none :: t => lvl r (i + 1) t
  | i, some v :: t => (i, rl r v) :: lvl r (i + 1) t
def Cx (m : mi) (X : aX) : Prop := match X with
  | (p, _, _, _, s, mm, args, _, meth, c, _, V) => VOK V ∧ p.tables.exec = Jvm.exec ∧ c.code = m.2.1 ∧ c.maxLocals = m.2.2.1 ∧ meth.sig.returnType = m.2.2.2 ∧ meth.locks = false ∧ s.vm.findClass m.1.cls = some mm.cls ∧ (∀ w ∈ wsOf m, w.before args s = true) ∧ KX V s ∧ meth.name = m.1.name
def Rd (X : aX) (d mc ms : Nat) : Prop := match X with
  | (_, _, _, R, _, _, _, _, _, _, _, _) => d ≤ R.frames ∧ 60 * d + 60 ≤ R.locals ∧ mc ≤ R.cells ∧ ms ≤ R.slots
def Rt (X : aX) (mc ms : Nat) (Q : Option Value → aW → Prop) : Prop := match X with
  | (_, _, _, _, s, _, args, below, _, _, Z, V) => Z = MQ below (aQc V Q) args s mc ms (fr V)
/-- from pc, with these locals, this stack, this world, so many cells and slots made: the method comes to its end -/
def Rw (m : mi) (X : aX) (pc : Nat) (ls : List (Option Value)) (st : List Value) (w : aW) (cells slots : Nat) : Prop := match X with
  | (p, l, e, R, s, mm, args, below, meth, c, Z, V) => ∀ (H : Heap) (locs : List Loc) (la : Array Slot), HW V w H → (∀ q ∈ locs, fr V q.base) → lv_has la m.2.2.1 (lvl V.2.2.1 0 ls) → W p l e R s mm args below meth c H locs cells slots Z (F0 mm pc la (st.map (rl V.2.2.1)))
theorem lvl_mem {r : Nat → Nat} : ∀ (ls : List (Option Value)) (i j : Nat) (v : Value), (j, v) ∈ lvl r i ls ↔ ∃ (k : Nat) (u : Value), j = i + k ∧ ls[k]? = some (some u) ∧ v = rl r u
  | [], i, j, v => by simp [lvl]
  | none :: t, i, j, v => by
    rw [lvl, lvl_mem t (i + 1) j v]
    constructor
    · rintro ⟨k, u, rfl, h, e⟩
      exact ⟨k + 1, u, by omega, by simpa using h, e⟩
    · rintro ⟨k, u, rfl, h, e⟩
      cases k with
      | zero => simp at h
      | succ k => exact ⟨k, u, by omega, by simpa using h, e⟩
  | some x :: t, i, j, v => by
    rw [lvl, List.mem_cons, lvl_mem t (i + 1) j v]
    constructor
    · rintro (h | ⟨k, u, rfl, h, e⟩)
      · obtain ⟨rfl, rfl⟩ := Prod.mk.inj h
        exact ⟨0, x, by omega, rfl, rfl⟩
      · exact ⟨k + 1, u, by omega, by simpa using h, e⟩
    · rintro ⟨k, u, rfl, h, e⟩
      cases k with
      | zero =>
        have hx : x = u := by simpa using h
        subst hx
        exact Or.inl (by rw [e]; rfl)
      | succ k => exact Or.inr ⟨k, u, by omega, by simpa using h, e⟩
theorem lvl_get {r : Nat → Nat} {la : Array Slot} {n i : Nat} {ls : List (Option Value)} {u : Value} (h : lv_has la n (lvl r 0 ls)) (hu : ls[i]? = some (some u)) : la[i]? = some (.val (rl r u)) :=
  h.2.2 (i, rl r u) ((lvl_mem ls 0 i _).mpr ⟨i, u, by omega, hu, rfl⟩)
theorem rl_cat (r : Nat → Nat) (v : Value) : (rl r v).category = v.category := by cases v <;> rfl
/-- no wide value lies just ahead of place i -/
def noL (ls : List (Option Value)) (i : Nat) : Bool := match i with
  | 0 => true
  | j + 1 => match ls[j]? with
    | some (some u) => u.category == 1
    | _ => true
theorem lvl_set {r : Nat → Nat} {la : Array Slot} {n i : Nat} {ls : List (Option Value)} {u : Value} (hn : noL ls i = true) (h : lv_has la n ((i, rl r u) :: (lvl r 0 ls).filter (fun q => !(q.1 == i) && !(q.1 + 1 == i && q.2.category == 2)))) : lv_has la n (lvl r 0 (ls.set i (some u))) := by
  refine ⟨h.1, h.2.1, fun q hq => h.2.2 q ?_⟩
  obtain ⟨j, v⟩ := q
  obtain ⟨k, x, e1, e2, e3⟩ := (lvl_mem _ 0 j v).mp hq
  have e1 : k = j := by omega
  subst e1
  by_cases hk : k = i
  · subst hk
    have hx : x = u := by
      rw [List.getElem?_set] at e2
      split at e2
      · split at e2
        · simpa using e2.symm
        · simp at e2
      · rename_i hne; exact absurd rfl hne
    rw [e3, hx]
    exact List.mem_cons_self
  · rw [List.getElem?_set_ne (Ne.symm hk)] at e2
    refine List.mem_cons_of_mem _ (List.mem_filter.mpr ⟨(lvl_mem _ 0 k v).mpr ⟨k, x, by omega, e2, e3⟩, ?_⟩)
    have h1 : (k == i) = false := by simpa using hk
    simp only [h1, Bool.not_false, Bool.true_and]
    by_cases h2 : k + 1 = i
    · subst h2
      have h3 : (x.category == 1) = true := by
        have := hn
        simp only [noL, e2] at this
        exact this
      rw [e3, rl_cat]
      have h4 : x.category = 1 := by simpa using h3
      rw [h4]
      simp
    · have : (k + 1 == i) = false := by simpa using h2
      simp [this]
end
section
section RULES
variable {m : mi} {X : aX} {pc : Nat} {ls : List (Option Value)} {st : List Value} {w : aW} {cl sl : Nat}
theorem R_iconst (hC : Cx m X) {n : Int} {v : Int32} (hd : decode m.2.1 pc = .ok (.iconst n, 1)) (hv : Int32.ofInt n = v)
    (k : Rw m X (pc + 1) ls (.int v :: st) w cl sl) : Rw m X pc ls (st) w cl sl := by
  obtain ⟨p, l, e, R, s, mm, args, below, meth, c, Z, V⟩ := X
  obtain ⟨hV, hx, hb, hml, hr, hlk, hown, hts, hK, hnm⟩ := hC
  intro H locs la hH hL hl
  exact lv_iconst hx hb hd hv (k H locs la hH hL hl)
theorem R_bipush (hC : Cx m X) {n : Int} {v : Int32} (hd : decode m.2.1 pc = .ok (.bipush n, 2)) (hv : (Int8.ofInt n).toInt32 = v)
    (k : Rw m X (pc + 2) ls (.int v :: st) w cl sl) : Rw m X pc ls (st) w cl sl := by
  obtain ⟨p, l, e, R, s, mm, args, below, meth, c, Z, V⟩ := X
  obtain ⟨hV, hx, hb, hml, hr, hlk, hown, hts, hK, hnm⟩ := hC
  intro H locs la hH hL hl
  exact lv_bipush hx hb hd hv (k H locs la hH hL hl)
theorem R_sipush (hC : Cx m X) {n : Int} {v : Int32} (hd : decode m.2.1 pc = .ok (.sipush n, 3)) (hv : (Int16.ofInt n).toInt32 = v)
    (k : Rw m X (pc + 3) ls (.int v :: st) w cl sl) : Rw m X pc ls (st) w cl sl := by
  obtain ⟨p, l, e, R, s, mm, args, below, meth, c, Z, V⟩ := X
  obtain ⟨hV, hx, hb, hml, hr, hlk, hown, hts, hK, hnm⟩ := hC
  intro H locs la hH hL hl
  exact lv_sipush hx hb hd hv (k H locs la hH hL hl)
theorem R_lconst (hC : Cx m X) {n : Fin 2} {v : Int64} (hd : decode m.2.1 pc = .ok (.lconst n, 1)) (hv : Int64.ofNat (n : Nat) = v)
    (k : Rw m X (pc + 1) ls (.long v :: st) w cl sl) : Rw m X pc ls (st) w cl sl := by
  obtain ⟨p, l, e, R, s, mm, args, below, meth, c, Z, V⟩ := X
  obtain ⟨hV, hx, hb, hml, hr, hlk, hown, hts, hK, hnm⟩ := hC
  intro H locs la hH hL hl
  exact lv_lconst hx hb hd hv (k H locs la hH hL hl)
theorem R_iload_n (hC : Cx m X) {j : Fin 4} {i : Nat} {x : Int32} (hd : decode m.2.1 pc = .ok (.iload_n j, 1)) (hi : (j : Nat) = i) (hu : ls[i]? = some (some (.int x)))
    (k : Rw m X (pc + 1) ls (.int x :: st) w cl sl) : Rw m X pc ls (st) w cl sl := by
  obtain ⟨p, l, e, R, s, mm, args, below, meth, c, Z, V⟩ := X
  obtain ⟨hV, hx, hb, hml, hr, hlk, hown, hts, hK, hnm⟩ := hC
  intro H locs la hH hL hl
  exact lv_iload_n hx hb hd hi (lvl_get hl hu) (k H locs la hH hL hl)
theorem R_iload (hC : Cx m X) {i : Nat} {x : Int32} (hd : decode m.2.1 pc = .ok (.iload i, 2)) (hu : ls[i]? = some (some (.int x)))
    (k : Rw m X (pc + 2) ls (.int x :: st) w cl sl) : Rw m X pc ls (st) w cl sl := by
  obtain ⟨p, l, e, R, s, mm, args, below, meth, c, Z, V⟩ := X
  obtain ⟨hV, hx, hb, hml, hr, hlk, hown, hts, hK, hnm⟩ := hC
  intro H locs la hH hL hl
  exact lv_iload hx hb hd (lvl_get hl hu) (k H locs la hH hL hl)
theorem R_lload_n (hC : Cx m X) {j : Fin 4} {i : Nat} {x : Int64} (hd : decode m.2.1 pc = .ok (.lload_n j, 1)) (hi : (j : Nat) = i) (hu : ls[i]? = some (some (.long x)))
    (k : Rw m X (pc + 1) ls (.long x :: st) w cl sl) : Rw m X pc ls (st) w cl sl := by
  obtain ⟨p, l, e, R, s, mm, args, below, meth, c, Z, V⟩ := X
  obtain ⟨hV, hx, hb, hml, hr, hlk, hown, hts, hK, hnm⟩ := hC
  intro H locs la hH hL hl
  exact lv_lload_n hx hb hd hi (lvl_get hl hu) (k H locs la hH hL hl)
theorem R_lload (hC : Cx m X) {i : Nat} {x : Int64} (hd : decode m.2.1 pc = .ok (.lload i, 2)) (hu : ls[i]? = some (some (.long x)))
    (k : Rw m X (pc + 2) ls (.long x :: st) w cl sl) : Rw m X pc ls (st) w cl sl := by
  obtain ⟨p, l, e, R, s, mm, args, below, meth, c, Z, V⟩ := X
  obtain ⟨hV, hx, hb, hml, hr, hlk, hown, hts, hK, hnm⟩ := hC
  intro H locs la hH hL hl
  exact lv_lload hx hb hd (lvl_get hl hu) (k H locs la hH hL hl)
theorem R_aload_n (hC : Cx m X) {j : Fin 4} {i : Nat} {x : Nat} (hd : decode m.2.1 pc = .ok (.aload_n j, 1)) (hi : (j : Nat) = i) (hu : ls[i]? = some (some (.ref x)))
    (k : Rw m X (pc + 1) ls (.ref x :: st) w cl sl) : Rw m X pc ls (st) w cl sl := by
  obtain ⟨p, l, e, R, s, mm, args, below, meth, c, Z, V⟩ := X
  obtain ⟨hV, hx, hb, hml, hr, hlk, hown, hts, hK, hnm⟩ := hC
  intro H locs la hH hL hl
  exact lv_aload_n hx hb hd hi (lvl_get hl hu) (k H locs la hH hL hl)
theorem R_aload (hC : Cx m X) {i : Nat} {x : Nat} (hd : decode m.2.1 pc = .ok (.aload i, 2)) (hu : ls[i]? = some (some (.ref x)))
    (k : Rw m X (pc + 2) ls (.ref x :: st) w cl sl) : Rw m X pc ls (st) w cl sl := by
  obtain ⟨p, l, e, R, s, mm, args, below, meth, c, Z, V⟩ := X
  obtain ⟨hV, hx, hb, hml, hr, hlk, hown, hts, hK, hnm⟩ := hC
  intro H locs la hH hL hl
  exact lv_aload hx hb hd (lvl_get hl hu) (k H locs la hH hL hl)
theorem R_istore_n (hC : Cx m X) {j : Fin 4} {i : Nat} {x : Int32} (hd : decode m.2.1 pc = .ok (.istore_n j, 1)) (hi : (j : Nat) = i) (hn : i < m.2.2.1) (hq : noL ls i = true)
    (k : Rw m X (pc + 1) (ls.set i (some (.int x))) (st) w cl sl) : Rw m X pc ls (.int x :: st) w cl sl := by
  obtain ⟨p, l, e, R, s, mm, args, below, meth, c, Z, V⟩ := X
  obtain ⟨hV, hx, hb, hml, hr, hlk, hown, hts, hK, hnm⟩ := hC
  intro H locs la hH hL hl
  exact lv_istore_n hx hb hd hi hl hn rfl (fun la2 h2 => k H locs la2 hH hL (lvl_set hq h2))
theorem R_istore (hC : Cx m X) {i : Nat} {x : Int32} (hd : decode m.2.1 pc = .ok (.istore i, 2)) (hn : i < m.2.2.1) (hq : noL ls i = true)
    (k : Rw m X (pc + 2) (ls.set i (some (.int x))) (st) w cl sl) : Rw m X pc ls (.int x :: st) w cl sl := by
  obtain ⟨p, l, e, R, s, mm, args, below, meth, c, Z, V⟩ := X
  obtain ⟨hV, hx, hb, hml, hr, hlk, hown, hts, hK, hnm⟩ := hC
  intro H locs la hH hL hl
  exact lv_istore hx hb hd hl hn rfl (fun la2 h2 => k H locs la2 hH hL (lvl_set hq h2))
theorem R_astore_n (hC : Cx m X) {j : Fin 4} {i : Nat} {x : Nat} (hd : decode m.2.1 pc = .ok (.astore_n j, 1)) (hi : (j : Nat) = i) (hn : i < m.2.2.1) (hq : noL ls i = true)
    (k : Rw m X (pc + 1) (ls.set i (some (.ref x))) (st) w cl sl) : Rw m X pc ls (.ref x :: st) w cl sl := by
  obtain ⟨p, l, e, R, s, mm, args, below, meth, c, Z, V⟩ := X
  obtain ⟨hV, hx, hb, hml, hr, hlk, hown, hts, hK, hnm⟩ := hC
  intro H locs la hH hL hl
  exact lv_astore_n hx hb hd hi hl hn rfl (fun la2 h2 => k H locs la2 hH hL (lvl_set hq h2))
theorem R_astore (hC : Cx m X) {i : Nat} {x : Nat} (hd : decode m.2.1 pc = .ok (.astore i, 2)) (hn : i < m.2.2.1) (hq : noL ls i = true)
    (k : Rw m X (pc + 2) (ls.set i (some (.ref x))) (st) w cl sl) : Rw m X pc ls (.ref x :: st) w cl sl := by
  obtain ⟨p, l, e, R, s, mm, args, below, meth, c, Z, V⟩ := X
  obtain ⟨hV, hx, hb, hml, hr, hlk, hown, hts, hK, hnm⟩ := hC
  intro H locs la hH hL hl
  exact lv_astore hx hb hd hl hn rfl (fun la2 h2 => k H locs la2 hH hL (lvl_set hq h2))
theorem R_iinc (hC : Cx m X) {i : Nat} {n : Int} {x v : Int32} (hd : decode m.2.1 pc = .ok (.iinc i n, 3)) (hu : ls[i]? = some (some (.int x))) (hv : x + Int32.ofInt n = v) (hn : i < m.2.2.1) (hq : noL ls i = true)
    (k : Rw m X (pc + 3) (ls.set i (some (.int v))) (st) w cl sl) : Rw m X pc ls (st) w cl sl := by
  obtain ⟨p, l, e, R, s, mm, args, below, meth, c, Z, V⟩ := X
  obtain ⟨hV, hx, hb, hml, hr, hlk, hown, hts, hK, hnm⟩ := hC
  intro H locs la hH hL hl
  obtain ⟨k0, hk0⟩ := List.getElem?_of_mem ((lvl_mem ls 0 i (.int x)).mpr ⟨i, .int x, by omega, hu, rfl⟩)
  exact lv_iinc hx hb hd hl hk0 hv hn rfl (fun la2 h2 => k H locs la2 hH hL (lvl_set (u := .int v) hq h2))
theorem R_iadd (hC : Cx m X) {x y : Int32} (hd : decode m.2.1 pc = .ok (.iadd, 1))
    (k : Rw m X (pc + 1) ls (.int (x + y) :: st) w cl sl) : Rw m X pc ls (.int y :: .int x :: st) w cl sl := by
  obtain ⟨p, l, e, R, s, mm, args, below, meth, c, Z, V⟩ := X
  obtain ⟨hV, hx, hb, hml, hr, hlk, hown, hts, hK, hnm⟩ := hC
  intro H locs la hH hL hl
  exact lv_iadd hx hb hd (k H locs la hH hL hl)
theorem R_isub (hC : Cx m X) {x y : Int32} (hd : decode m.2.1 pc = .ok (.isub, 1))
    (k : Rw m X (pc + 1) ls (.int (x - y) :: st) w cl sl) : Rw m X pc ls (.int y :: .int x :: st) w cl sl := by
  obtain ⟨p, l, e, R, s, mm, args, below, meth, c, Z, V⟩ := X
  obtain ⟨hV, hx, hb, hml, hr, hlk, hown, hts, hK, hnm⟩ := hC
  intro H locs la hH hL hl
  exact lv_isub hx hb hd (k H locs la hH hL hl)
theorem R_imul (hC : Cx m X) {x y : Int32} (hd : decode m.2.1 pc = .ok (.imul, 1))
    (k : Rw m X (pc + 1) ls (.int (x * y) :: st) w cl sl) : Rw m X pc ls (.int y :: .int x :: st) w cl sl := by
  obtain ⟨p, l, e, R, s, mm, args, below, meth, c, Z, V⟩ := X
  obtain ⟨hV, hx, hb, hml, hr, hlk, hown, hts, hK, hnm⟩ := hC
  intro H locs la hH hL hl
  exact lv_imul hx hb hd (k H locs la hH hL hl)
theorem R_iand (hC : Cx m X) {x y : Int32} (hd : decode m.2.1 pc = .ok (.iand, 1))
    (k : Rw m X (pc + 1) ls (.int (x &&& y) :: st) w cl sl) : Rw m X pc ls (.int y :: .int x :: st) w cl sl := by
  obtain ⟨p, l, e, R, s, mm, args, below, meth, c, Z, V⟩ := X
  obtain ⟨hV, hx, hb, hml, hr, hlk, hown, hts, hK, hnm⟩ := hC
  intro H locs la hH hL hl
  exact lv_iand hx hb hd (k H locs la hH hL hl)
theorem R_ior (hC : Cx m X) {x y : Int32} (hd : decode m.2.1 pc = .ok (.ior, 1))
    (k : Rw m X (pc + 1) ls (.int (x ||| y) :: st) w cl sl) : Rw m X pc ls (.int y :: .int x :: st) w cl sl := by
  obtain ⟨p, l, e, R, s, mm, args, below, meth, c, Z, V⟩ := X
  obtain ⟨hV, hx, hb, hml, hr, hlk, hown, hts, hK, hnm⟩ := hC
  intro H locs la hH hL hl
  exact lv_ior hx hb hd (k H locs la hH hL hl)
theorem R_ixor (hC : Cx m X) {x y : Int32} (hd : decode m.2.1 pc = .ok (.ixor, 1))
    (k : Rw m X (pc + 1) ls (.int (x ^^^ y) :: st) w cl sl) : Rw m X pc ls (.int y :: .int x :: st) w cl sl := by
  obtain ⟨p, l, e, R, s, mm, args, below, meth, c, Z, V⟩ := X
  obtain ⟨hV, hx, hb, hml, hr, hlk, hown, hts, hK, hnm⟩ := hC
  intro H locs la hH hL hl
  exact lv_ixor hx hb hd (k H locs la hH hL hl)
theorem R_ishl (hC : Cx m X) {x y : Int32} (hd : decode m.2.1 pc = .ok (.ishl, 1))
    (k : Rw m X (pc + 1) ls (.int (x <<< (y &&& 31)) :: st) w cl sl) : Rw m X pc ls (.int y :: .int x :: st) w cl sl := by
  obtain ⟨p, l, e, R, s, mm, args, below, meth, c, Z, V⟩ := X
  obtain ⟨hV, hx, hb, hml, hr, hlk, hown, hts, hK, hnm⟩ := hC
  intro H locs la hH hL hl
  exact lv_ishl hx hb hd (k H locs la hH hL hl)
theorem R_ishr (hC : Cx m X) {x y : Int32} (hd : decode m.2.1 pc = .ok (.ishr, 1))
    (k : Rw m X (pc + 1) ls (.int (x >>> (y &&& 31)) :: st) w cl sl) : Rw m X pc ls (.int y :: .int x :: st) w cl sl := by
  obtain ⟨p, l, e, R, s, mm, args, below, meth, c, Z, V⟩ := X
  obtain ⟨hV, hx, hb, hml, hr, hlk, hown, hts, hK, hnm⟩ := hC
  intro H locs la hH hL hl
  exact lv_ishr hx hb hd (k H locs la hH hL hl)
theorem R_idiv (hC : Cx m X) {x y : Int32} (hd : decode m.2.1 pc = .ok (.idiv, 1)) (hne : ¬ y = 0)
    (k : Rw m X (pc + 1) ls (.int (x / y) :: st) w cl sl) : Rw m X pc ls (.int y :: .int x :: st) w cl sl := by
  obtain ⟨p, l, e, R, s, mm, args, below, meth, c, Z, V⟩ := X
  obtain ⟨hV, hx, hb, hml, hr, hlk, hown, hts, hK, hnm⟩ := hC
  intro H locs la hH hL hl
  exact lv_idiv hx hb hd hne (k H locs la hH hL hl)
theorem R_irem (hC : Cx m X) {x y : Int32} (hd : decode m.2.1 pc = .ok (.irem, 1)) (hne : ¬ y = 0)
    (k : Rw m X (pc + 1) ls (.int (x - x / y * y) :: st) w cl sl) : Rw m X pc ls (.int y :: .int x :: st) w cl sl := by
  obtain ⟨p, l, e, R, s, mm, args, below, meth, c, Z, V⟩ := X
  obtain ⟨hV, hx, hb, hml, hr, hlk, hown, hts, hK, hnm⟩ := hC
  intro H locs la hH hL hl
  exact lv_irem hx hb hd hne (k H locs la hH hL hl)
theorem R_ineg (hC : Cx m X) {x : Int32} (hd : decode m.2.1 pc = .ok (.ineg, 1))
    (k : Rw m X (pc + 1) ls (.int (-x) :: st) w cl sl) : Rw m X pc ls (.int x :: st) w cl sl := by
  obtain ⟨p, l, e, R, s, mm, args, below, meth, c, Z, V⟩ := X
  obtain ⟨hV, hx, hb, hml, hr, hlk, hown, hts, hK, hnm⟩ := hC
  intro H locs la hH hL hl
  exact lv_ineg hx hb hd (k H locs la hH hL hl)
theorem R_iushr (hC : Cx m X) {x y : Int32} (hd : decode m.2.1 pc = .ok (.iushr, 1))
    (k : Rw m X (pc + 1) ls (.int ((x.toUInt32 >>> (y.toUInt32 &&& Int32.toUInt32 31)).toInt32) :: st) w cl sl) : Rw m X pc ls (.int y :: .int x :: st) w cl sl := by
  obtain ⟨p, l, e, R, s, mm, args, below, meth, c, Z, V⟩ := X
  obtain ⟨hV, hx, hb, hml, hr, hlk, hown, hts, hK, hnm⟩ := hC
  intro H locs la hH hL hl
  exact lv_iushr hx hb hd rfl (k H locs la hH hL hl)
theorem R_ladd (hC : Cx m X) {x y : Int64} (hd : decode m.2.1 pc = .ok (.ladd, 1))
    (k : Rw m X (pc + 1) ls (.long (x + y) :: st) w cl sl) : Rw m X pc ls (.long y :: .long x :: st) w cl sl := by
  obtain ⟨p, l, e, R, s, mm, args, below, meth, c, Z, V⟩ := X
  obtain ⟨hV, hx, hb, hml, hr, hlk, hown, hts, hK, hnm⟩ := hC
  intro H locs la hH hL hl
  exact lv_ladd hx hb hd (k H locs la hH hL hl)
theorem R_lmul (hC : Cx m X) {x y : Int64} (hd : decode m.2.1 pc = .ok (.lmul, 1))
    (k : Rw m X (pc + 1) ls (.long (x * y) :: st) w cl sl) : Rw m X pc ls (.long y :: .long x :: st) w cl sl := by
  obtain ⟨p, l, e, R, s, mm, args, below, meth, c, Z, V⟩ := X
  obtain ⟨hV, hx, hb, hml, hr, hlk, hown, hts, hK, hnm⟩ := hC
  intro H locs la hH hL hl
  exact lv_lmul hx hb hd (k H locs la hH hL hl)
theorem R_land (hC : Cx m X) {x y : Int64} (hd : decode m.2.1 pc = .ok (.land, 1))
    (k : Rw m X (pc + 1) ls (.long (x &&& y) :: st) w cl sl) : Rw m X pc ls (.long y :: .long x :: st) w cl sl := by
  obtain ⟨p, l, e, R, s, mm, args, below, meth, c, Z, V⟩ := X
  obtain ⟨hV, hx, hb, hml, hr, hlk, hown, hts, hK, hnm⟩ := hC
  intro H locs la hH hL hl
  exact lv_land hx hb hd (k H locs la hH hL hl)
theorem R_lor (hC : Cx m X) {x y : Int64} (hd : decode m.2.1 pc = .ok (.lor, 1))
    (k : Rw m X (pc + 1) ls (.long (x ||| y) :: st) w cl sl) : Rw m X pc ls (.long y :: .long x :: st) w cl sl := by
  obtain ⟨p, l, e, R, s, mm, args, below, meth, c, Z, V⟩ := X
  obtain ⟨hV, hx, hb, hml, hr, hlk, hown, hts, hK, hnm⟩ := hC
  intro H locs la hH hL hl
  exact lv_lor hx hb hd (k H locs la hH hL hl)
theorem R_lrem (hC : Cx m X) {x y : Int64} (hd : decode m.2.1 pc = .ok (.lrem, 1)) (hne : ¬ y = 0)
    (k : Rw m X (pc + 1) ls (.long (x - x / y * y) :: st) w cl sl) : Rw m X pc ls (.long y :: .long x :: st) w cl sl := by
  obtain ⟨p, l, e, R, s, mm, args, below, meth, c, Z, V⟩ := X
  obtain ⟨hV, hx, hb, hml, hr, hlk, hown, hts, hK, hnm⟩ := hC
  intro H locs la hH hL hl
  exact lv_lrem hx hb hd hne (k H locs la hH hL hl)
theorem R_lushr (hC : Cx m X) {x : Int64} {y : Int32} (hd : decode m.2.1 pc = .ok (.lushr, 1))
    (k : Rw m X (pc + 1) ls (.long ((x.toUInt64 >>> (y.toInt64.toUInt64 &&& Int64.toUInt64 63)).toInt64) :: st) w cl sl) : Rw m X pc ls (.int y :: .long x :: st) w cl sl := by
  obtain ⟨p, l, e, R, s, mm, args, below, meth, c, Z, V⟩ := X
  obtain ⟨hV, hx, hb, hml, hr, hlk, hown, hts, hK, hnm⟩ := hC
  intro H locs la hH hL hl
  exact lv_lushr hx hb hd rfl (k H locs la hH hL hl)
theorem R_lshl (hC : Cx m X) {x : Int64} {y : Int32} (hd : decode m.2.1 pc = .ok (.lshl, 1))
    (k : Rw m X (pc + 1) ls (.long (x <<< (y.toInt64 &&& 63)) :: st) w cl sl) : Rw m X pc ls (.int y :: .long x :: st) w cl sl := by
  obtain ⟨p, l, e, R, s, mm, args, below, meth, c, Z, V⟩ := X
  obtain ⟨hV, hx, hb, hml, hr, hlk, hown, hts, hK, hnm⟩ := hC
  intro H locs la hH hL hl
  exact lv_lshl hx hb hd rfl (k H locs la hH hL hl)
theorem R_i2l (hC : Cx m X) {x : Int32} (hd : decode m.2.1 pc = .ok (.i2l, 1))
    (k : Rw m X (pc + 1) ls (.long x.toInt64 :: st) w cl sl) : Rw m X pc ls (.int x :: st) w cl sl := by
  obtain ⟨p, l, e, R, s, mm, args, below, meth, c, Z, V⟩ := X
  obtain ⟨hV, hx, hb, hml, hr, hlk, hown, hts, hK, hnm⟩ := hC
  intro H locs la hH hL hl
  exact lv_i2l hx hb hd rfl (k H locs la hH hL hl)
theorem R_l2i (hC : Cx m X) {x : Int64} (hd : decode m.2.1 pc = .ok (.l2i, 1))
    (k : Rw m X (pc + 1) ls (.int x.toInt32 :: st) w cl sl) : Rw m X pc ls (.long x :: st) w cl sl := by
  obtain ⟨p, l, e, R, s, mm, args, below, meth, c, Z, V⟩ := X
  obtain ⟨hV, hx, hb, hml, hr, hlk, hown, hts, hK, hnm⟩ := hC
  intro H locs la hH hL hl
  exact lv_l2i hx hb hd rfl (k H locs la hH hL hl)
theorem R_i2b (hC : Cx m X) {x : Int32} (hd : decode m.2.1 pc = .ok (.i2b, 1))
    (k : Rw m X (pc + 1) ls (.int x.toInt8.toInt32 :: st) w cl sl) : Rw m X pc ls (.int x :: st) w cl sl := by
  obtain ⟨p, l, e, R, s, mm, args, below, meth, c, Z, V⟩ := X
  obtain ⟨hV, hx, hb, hml, hr, hlk, hown, hts, hK, hnm⟩ := hC
  intro H locs la hH hL hl
  exact lv_i2b hx hb hd rfl (k H locs la hH hL hl)
theorem R_i2c (hC : Cx m X) {x : Int32} (hd : decode m.2.1 pc = .ok (.i2c, 1))
    (k : Rw m X (pc + 1) ls (.int (x.toUInt32 % 65536).toInt32 :: st) w cl sl) : Rw m X pc ls (.int x :: st) w cl sl := by
  obtain ⟨p, l, e, R, s, mm, args, below, meth, c, Z, V⟩ := X
  obtain ⟨hV, hx, hb, hml, hr, hlk, hown, hts, hK, hnm⟩ := hC
  intro H locs la hH hL hl
  exact lv_i2c hx hb hd rfl (k H locs la hH hL hl)
theorem R_dup (hC : Cx m X) {v : Value} (hd : decode m.2.1 pc = .ok (.dup, 1)) (hc : v.category = 1)
    (k : Rw m X (pc + 1) ls (v :: v :: st) w cl sl) : Rw m X pc ls (v :: st) w cl sl := by
  obtain ⟨p, l, e, R, s, mm, args, below, meth, c, Z, V⟩ := X
  obtain ⟨hV, hx, hb, hml, hr, hlk, hown, hts, hK, hnm⟩ := hC
  intro H locs la hH hL hl
  exact lv_dup hx hb hd (by rw [rl_cat]; exact hc) (k H locs la hH hL hl)
theorem R_dup2 (hC : Cx m X) {v u : Value} (hd : decode m.2.1 pc = .ok (.dup2, 1)) (hc : v.category = 1) (hc2 : u.category = 1)
    (k : Rw m X (pc + 1) ls (v :: u :: v :: u :: st) w cl sl) : Rw m X pc ls (v :: u :: st) w cl sl := by
  obtain ⟨p, l, e, R, s, mm, args, below, meth, c, Z, V⟩ := X
  obtain ⟨hV, hx, hb, hml, hr, hlk, hown, hts, hK, hnm⟩ := hC
  intro H locs la hH hL hl
  exact lv_dup2_11 hx hb hd (by rw [rl_cat]; exact hc) (by rw [rl_cat]; exact hc2) (k H locs la hH hL hl)
theorem R_pop (hC : Cx m X) {v : Value} (hd : decode m.2.1 pc = .ok (.pop, 1)) (hc : v.category = 1)
    (k : Rw m X (pc + 1) ls (st) w cl sl) : Rw m X pc ls (v :: st) w cl sl := by
  obtain ⟨p, l, e, R, s, mm, args, below, meth, c, Z, V⟩ := X
  obtain ⟨hV, hx, hb, hml, hr, hlk, hown, hts, hK, hnm⟩ := hC
  intro H locs la hH hL hl
  exact lv_pop hx hb hd (by rw [rl_cat]; exact hc) (k H locs la hH hL hl)
theorem R_goto (hC : Cx m X) {off : Int} (tgt : Nat) (hd : decode m.2.1 pc = .ok (.goto off, 3)) (ht : (pc : Int) + off = (tgt : Int))
    (k : Rw m X tgt ls st w cl sl) : Rw m X pc ls st w cl sl := by
  obtain ⟨p, l, e, R, s, mm, args, below, meth, c, Z, V⟩ := X
  obtain ⟨hV, hx, hb, hml, hr, hlk, hown, hts, hK, hnm⟩ := hC
  intro H locs la hH hL hl
  exact lv_goto hx hb hd ht (k H locs la hH hL hl)
theorem R_if_eq (hC : Cx m X) {x : Int32} {off : Int} (tgt : Nat) (hd : decode m.2.1 pc = .ok (.ifCond .eq off, 3)) (ht : (pc : Int) + off = (tgt : Int))
    (kt : x = 0 → Rw m X tgt ls st w cl sl) (kf : ¬ x = 0 → Rw m X (pc + 3) ls st w cl sl) : Rw m X pc ls (.int x :: st) w cl sl := by
  obtain ⟨p, l, e, R, s, mm, args, below, meth, c, Z, V⟩ := X
  obtain ⟨hV, hx, hb, hml, hr, hlk, hown, hts, hK, hnm⟩ := hC
  intro H locs la hH hL hl
  exact lv_if_eq hx hb hd ht (fun q => kt q H locs la hH hL hl) (fun q => kf q H locs la hH hL hl)
theorem R_icmp_eq (hC : Cx m X) {x y : Int32} {off : Int} (tgt : Nat) (hd : decode m.2.1 pc = .ok (.if_icmp .eq off, 3)) (ht : (pc : Int) + off = (tgt : Int))
    (kt : x = y → Rw m X tgt ls st w cl sl) (kf : ¬ x = y → Rw m X (pc + 3) ls st w cl sl) : Rw m X pc ls (.int y :: .int x :: st) w cl sl := by
  obtain ⟨p, l, e, R, s, mm, args, below, meth, c, Z, V⟩ := X
  obtain ⟨hV, hx, hb, hml, hr, hlk, hown, hts, hK, hnm⟩ := hC
  intro H locs la hH hL hl
  exact lv_icmp_eq hx hb hd ht (fun q => kt q H locs la hH hL hl) (fun q => kf q H locs la hH hL hl)
theorem R_if_ne (hC : Cx m X) {x : Int32} {off : Int} (tgt : Nat) (hd : decode m.2.1 pc = .ok (.ifCond .ne off, 3)) (ht : (pc : Int) + off = (tgt : Int))
    (kt : ¬ x = 0 → Rw m X tgt ls st w cl sl) (kf : x = 0 → Rw m X (pc + 3) ls st w cl sl) : Rw m X pc ls (.int x :: st) w cl sl := by
  obtain ⟨p, l, e, R, s, mm, args, below, meth, c, Z, V⟩ := X
  obtain ⟨hV, hx, hb, hml, hr, hlk, hown, hts, hK, hnm⟩ := hC
  intro H locs la hH hL hl
  exact lv_if_ne hx hb hd ht (fun q => kt q H locs la hH hL hl) (fun q => kf q H locs la hH hL hl)
theorem R_icmp_ne (hC : Cx m X) {x y : Int32} {off : Int} (tgt : Nat) (hd : decode m.2.1 pc = .ok (.if_icmp .ne off, 3)) (ht : (pc : Int) + off = (tgt : Int))
    (kt : ¬ x = y → Rw m X tgt ls st w cl sl) (kf : x = y → Rw m X (pc + 3) ls st w cl sl) : Rw m X pc ls (.int y :: .int x :: st) w cl sl := by
  obtain ⟨p, l, e, R, s, mm, args, below, meth, c, Z, V⟩ := X
  obtain ⟨hV, hx, hb, hml, hr, hlk, hown, hts, hK, hnm⟩ := hC
  intro H locs la hH hL hl
  exact lv_icmp_ne hx hb hd ht (fun q => kt q H locs la hH hL hl) (fun q => kf q H locs la hH hL hl)
theorem R_if_lt (hC : Cx m X) {x : Int32} {off : Int} (tgt : Nat) (hd : decode m.2.1 pc = .ok (.ifCond .lt off, 3)) (ht : (pc : Int) + off = (tgt : Int))
    (kt : x < 0 → Rw m X tgt ls st w cl sl) (kf : ¬ x < 0 → Rw m X (pc + 3) ls st w cl sl) : Rw m X pc ls (.int x :: st) w cl sl := by
  obtain ⟨p, l, e, R, s, mm, args, below, meth, c, Z, V⟩ := X
  obtain ⟨hV, hx, hb, hml, hr, hlk, hown, hts, hK, hnm⟩ := hC
  intro H locs la hH hL hl
  exact lv_if_lt hx hb hd ht (fun q => kt q H locs la hH hL hl) (fun q => kf q H locs la hH hL hl)
theorem R_icmp_lt (hC : Cx m X) {x y : Int32} {off : Int} (tgt : Nat) (hd : decode m.2.1 pc = .ok (.if_icmp .lt off, 3)) (ht : (pc : Int) + off = (tgt : Int))
    (kt : x < y → Rw m X tgt ls st w cl sl) (kf : ¬ x < y → Rw m X (pc + 3) ls st w cl sl) : Rw m X pc ls (.int y :: .int x :: st) w cl sl := by
  obtain ⟨p, l, e, R, s, mm, args, below, meth, c, Z, V⟩ := X
  obtain ⟨hV, hx, hb, hml, hr, hlk, hown, hts, hK, hnm⟩ := hC
  intro H locs la hH hL hl
  exact lv_icmp_lt hx hb hd ht (fun q => kt q H locs la hH hL hl) (fun q => kf q H locs la hH hL hl)
theorem R_if_ge (hC : Cx m X) {x : Int32} {off : Int} (tgt : Nat) (hd : decode m.2.1 pc = .ok (.ifCond .ge off, 3)) (ht : (pc : Int) + off = (tgt : Int))
    (kt : 0 ≤ x → Rw m X tgt ls st w cl sl) (kf : ¬ 0 ≤ x → Rw m X (pc + 3) ls st w cl sl) : Rw m X pc ls (.int x :: st) w cl sl := by
  obtain ⟨p, l, e, R, s, mm, args, below, meth, c, Z, V⟩ := X
  obtain ⟨hV, hx, hb, hml, hr, hlk, hown, hts, hK, hnm⟩ := hC
  intro H locs la hH hL hl
  exact lv_if_ge hx hb hd ht (fun q => kt q H locs la hH hL hl) (fun q => kf q H locs la hH hL hl)
theorem R_icmp_ge (hC : Cx m X) {x y : Int32} {off : Int} (tgt : Nat) (hd : decode m.2.1 pc = .ok (.if_icmp .ge off, 3)) (ht : (pc : Int) + off = (tgt : Int))
    (kt : y ≤ x → Rw m X tgt ls st w cl sl) (kf : ¬ y ≤ x → Rw m X (pc + 3) ls st w cl sl) : Rw m X pc ls (.int y :: .int x :: st) w cl sl := by
  obtain ⟨p, l, e, R, s, mm, args, below, meth, c, Z, V⟩ := X
  obtain ⟨hV, hx, hb, hml, hr, hlk, hown, hts, hK, hnm⟩ := hC
  intro H locs la hH hL hl
  exact lv_icmp_ge hx hb hd ht (fun q => kt q H locs la hH hL hl) (fun q => kf q H locs la hH hL hl)
theorem R_if_gt (hC : Cx m X) {x : Int32} {off : Int} (tgt : Nat) (hd : decode m.2.1 pc = .ok (.ifCond .gt off, 3)) (ht : (pc : Int) + off = (tgt : Int))
    (kt : 0 < x → Rw m X tgt ls st w cl sl) (kf : ¬ 0 < x → Rw m X (pc + 3) ls st w cl sl) : Rw m X pc ls (.int x :: st) w cl sl := by
  obtain ⟨p, l, e, R, s, mm, args, below, meth, c, Z, V⟩ := X
  obtain ⟨hV, hx, hb, hml, hr, hlk, hown, hts, hK, hnm⟩ := hC
  intro H locs la hH hL hl
  exact lv_if_gt hx hb hd ht (fun q => kt q H locs la hH hL hl) (fun q => kf q H locs la hH hL hl)
theorem R_icmp_gt (hC : Cx m X) {x y : Int32} {off : Int} (tgt : Nat) (hd : decode m.2.1 pc = .ok (.if_icmp .gt off, 3)) (ht : (pc : Int) + off = (tgt : Int))
    (kt : y < x → Rw m X tgt ls st w cl sl) (kf : ¬ y < x → Rw m X (pc + 3) ls st w cl sl) : Rw m X pc ls (.int y :: .int x :: st) w cl sl := by
  obtain ⟨p, l, e, R, s, mm, args, below, meth, c, Z, V⟩ := X
  obtain ⟨hV, hx, hb, hml, hr, hlk, hown, hts, hK, hnm⟩ := hC
  intro H locs la hH hL hl
  exact lv_icmp_gt hx hb hd ht (fun q => kt q H locs la hH hL hl) (fun q => kf q H locs la hH hL hl)
theorem R_if_le (hC : Cx m X) {x : Int32} {off : Int} (tgt : Nat) (hd : decode m.2.1 pc = .ok (.ifCond .le off, 3)) (ht : (pc : Int) + off = (tgt : Int))
    (kt : x ≤ 0 → Rw m X tgt ls st w cl sl) (kf : ¬ x ≤ 0 → Rw m X (pc + 3) ls st w cl sl) : Rw m X pc ls (.int x :: st) w cl sl := by
  obtain ⟨p, l, e, R, s, mm, args, below, meth, c, Z, V⟩ := X
  obtain ⟨hV, hx, hb, hml, hr, hlk, hown, hts, hK, hnm⟩ := hC
  intro H locs la hH hL hl
  exact lv_if_le hx hb hd ht (fun q => kt q H locs la hH hL hl) (fun q => kf q H locs la hH hL hl)
theorem R_icmp_le (hC : Cx m X) {x y : Int32} {off : Int} (tgt : Nat) (hd : decode m.2.1 pc = .ok (.if_icmp .le off, 3)) (ht : (pc : Int) + off = (tgt : Int))
    (kt : x ≤ y → Rw m X tgt ls st w cl sl) (kf : ¬ x ≤ y → Rw m X (pc + 3) ls st w cl sl) : Rw m X pc ls (.int y :: .int x :: st) w cl sl := by
  obtain ⟨p, l, e, R, s, mm, args, below, meth, c, Z, V⟩ := X
  obtain ⟨hV, hx, hb, hml, hr, hlk, hown, hts, hK, hnm⟩ := hC
  intro H locs la hH hL hl
  exact lv_icmp_le hx hb hd ht (fun q => kt q H locs la hH hL hl) (fun q => kf q H locs la hH hL hl)
theorem R_tableOut (hC : Cx m X) {dflt lo hi : Int} {offs : Array Int} {len : Nat} {x : Int32} (tgt : Nat) (hd : decode m.2.1 pc = .ok (.tableswitch dflt lo hi offs, len)) (h : x.toInt < lo ∨ hi < x.toInt) (ht : (pc : Int) + dflt = (tgt : Int))
    (k : Rw m X tgt ls st w cl sl) : Rw m X pc ls (.int x :: st) w cl sl := by
  obtain ⟨p, l, e, R, s, mm, args, below, meth, c, Z, V⟩ := X
  obtain ⟨hV, hx, hb, hml, hr, hlk, hown, hts, hK, hnm⟩ := hC
  intro H locs la hH hL hl
  exact lv_tableOut hx hb hd h ht (k H locs la hH hL hl)
theorem R_tableIn (hC : Cx m X) {dflt lo hi : Int} {offs : Array Int} {len : Nat} {x : Int32} {off : Int} (tgt : Nat) (hd : decode m.2.1 pc = .ok (.tableswitch dflt lo hi offs, len)) (h1 : ¬ x.toInt < lo) (h2 : ¬ hi < x.toInt) (ho : offs[(x.toInt - lo).toNat]? = some off) (ht : (pc : Int) + off = (tgt : Int))
    (k : Rw m X tgt ls st w cl sl) : Rw m X pc ls (.int x :: st) w cl sl := by
  obtain ⟨p, l, e, R, s, mm, args, below, meth, c, Z, V⟩ := X
  obtain ⟨hV, hx, hb, hml, hr, hlk, hown, hts, hK, hnm⟩ := hC
  intro H locs la hH hL hl
  exact lv_tableIn hx hb hd h1 h2 ho ht (k H locs la hH hL hl)
theorem R_lookup (hC : Cx m X) {dflt : Int} {ps : Array (Int × Int)} {len : Nat} {x : Int32} {off : Int} (tgt : Nat) (hd : decode m.2.1 pc = .ok (.lookupswitch dflt ps, len)) (hp : (ps.toList.zip (ps.toList.drop 1)).all (fun (a, next) => a.1 < next.1) = true) (ho : Op.lookupswitch.offset ps.toList dflt x.toInt = off) (ht : (pc : Int) + off = (tgt : Int))
    (k : Rw m X tgt ls st w cl sl) : Rw m X pc ls (.int x :: st) w cl sl := by
  obtain ⟨p, l, e, R, s, mm, args, below, meth, c, Z, V⟩ := X
  obtain ⟨hV, hx, hb, hml, hr, hlk, hown, hts, hK, hnm⟩ := hC
  intro H locs la hH hL hl
  exact lv_lookup hx hb hd hp ho ht (k H locs la hH hL hl)
theorem R_ldc (hC : Cx m X) {idx : Nat} {v : Int32} (hd : decode m.2.1 pc = .ok (.ldc idx, 2)) (hk : Cond.constant m.1.cls idx v ∈ lw_gl)
    (k : Rw m X (pc + 2) ls (.int v :: st) w cl sl) : Rw m X pc ls (st) w cl sl := by
  obtain ⟨p, l, e, R, s, mm, args, below, meth, c, Z, V⟩ := X
  obtain ⟨hV, hx, hb, hml, hr, hlk, hown, hts, hK, hnm⟩ := hC
  intro H locs la hH hL hl
  exact lv_ldc hx hb hown (hts _ (List.mem_cons_of_mem _ hk)) hd (k H locs la hH hL hl)
theorem R_ldcw (hC : Cx m X) {idx : Nat} {v : Int32} (hd : decode m.2.1 pc = .ok (.ldc_w idx, 3)) (hk : Cond.constant m.1.cls idx v ∈ lw_gl)
    (k : Rw m X (pc + 3) ls (.int v :: st) w cl sl) : Rw m X pc ls (st) w cl sl := by
  obtain ⟨p, l, e, R, s, mm, args, below, meth, c, Z, V⟩ := X
  obtain ⟨hV, hx, hb, hml, hr, hlk, hown, hts, hK, hnm⟩ := hC
  intro H locs la hH hL hl
  exact lv_ldcw hx hb hown (hts _ (List.mem_cons_of_mem _ hk)) hd (k H locs la hH hL hl)
theorem R_ldc2 (hC : Cx m X) {idx : Nat} {v : Int64} (hd : decode m.2.1 pc = .ok (.ldc2_w idx, 3)) (hk : Cond.constantLong m.1.cls idx v ∈ lw_gl)
    (k : Rw m X (pc + 3) ls (.long v :: st) w cl sl) : Rw m X pc ls (st) w cl sl := by
  obtain ⟨p, l, e, R, s, mm, args, below, meth, c, Z, V⟩ := X
  obtain ⟨hV, hx, hb, hml, hr, hlk, hown, hts, hK, hnm⟩ := hC
  intro H locs la hH hL hl
  exact lv_ldc2 hx hb hown (hts _ (List.mem_cons_of_mem _ hk)) hd (k H locs la hH hL hl)
theorem R_lcmp (hC : Cx m X) {x y : Int64} (hd : decode m.2.1 pc = .ok (.lcmp, 1))
    (k : Rw m X (pc + 1) ls (.int (lg_cmp x y) :: st) w cl sl) : Rw m X pc ls (.long y :: .long x :: st) w cl sl := by
  obtain ⟨p, l, e, R, s, mm, args, below, meth, c, Z, V⟩ := X
  obtain ⟨hV, hx, hb, hml, hr, hlk, hown, hts, hK, hnm⟩ := hC
  intro H locs la hH hL hl
  exact W.lcmp hx hb hd (k H locs la hH hL hl)
end RULES
end
section
theorem rho_ge {V : aV} (hV : VOK V) {a : Nat} (ha : 16 ≤ a) : V.2.2.1 a = V.2.2.2.size + (a - 16) := by
  have h := hV.1 (a - 16)
  rwa [show 16 + (a - 16) = a by omega] at h
theorem rho_fr {V : aV} (hV : VOK V) {a : Nat} (ha : 16 ≤ a) : fr V (V.2.2.1 a) := by
  show V.2.2.2.size ≤ V.2.2.1 a
  rw [rho_ge hV ha]; omega
theorem rho_ne {V : aV} (hV : VOK V) {a j : Nat} (ha : 16 ≤ a) (hne : j ≠ a) : V.2.2.1 j ≠ V.2.2.1 a := by
  rw [rho_ge hV ha]
  by_cases hj : 16 ≤ j
  · rw [rho_ge hV hj]; omega
  · have := hV.2 j (by omega); omega
theorem va_up_eq {α : Type} (f : Nat → α) (k : Nat) (v : α) : va_up f k v k = v := by simp [va_up]
theorem HW_set {V : aV} {w : aW} {H H1 : Heap} {a : Nat} {c c0 : aE} (hV : VOK V) (hH : HW V w H) (ha : 16 ≤ a) (h0 : w.2 a = some c0) (hc : va_at V.1 vwCl (V.2.2.1 a, cE V c) H1) (hz : H1.size = H.size) (oq : ∀ q : Nat, q ≠ V.2.2.1 a → H1[q]? = H[q]?) : HW V (w.1, va_up w.2 a (some c)) H1 := by
  obtain ⟨h1, h2, h3, h4⟩ := hH
  refine ⟨by rw [hz]; exact h1, h2, fun q hq => ?_, fun i ci hi => ?_⟩
  · have := rho_fr hV ha
    unfold fr at this
    rw [oq q (by omega)]; exact h3 q hq
  · by_cases hia : i = a
    · subst hia
      simp only [va_up_eq] at hi
      cases hi
      exact ⟨(h4 i c0 h0).1, hc⟩
    · simp only [va_up, if_neg hia] at hi
      obtain ⟨g1, g2⟩ := h4 i ci hi
      exact ⟨g1, g2.kept (oq _ (rho_ne hV ha hia))⟩
theorem fr_app {V : aV} {locs : List Loc} {a k : Nat} (hL : ∀ q ∈ locs, fr V q.base) (ha : fr V a) : ∀ q ∈ locs ++ [⟨a, k⟩], fr V q.base := by
  intro q hq
  rcases List.mem_append.mp hq with h | h
  · exact hL q h
  · rw [List.mem_singleton.mp h]; exact ha
theorem gl_ts {m : mi} {args : Array Value} {s : State} (hts : ∀ w ∈ wsOf m, w.before args s = true) {w : Cond} (h : w ∈ lw_gl) : w.before args s = true := hts w (List.mem_cons_of_mem _ h)
section WRULES
variable {m : mi} {X : aX} {pc : Nat} {ls : List (Option Value)} {st : List Value} {w : aW} {cl sl : Nat}
theorem R_get (hC : Cx m X) {a ci k idx : Nat} {fin : Bool} {ty : FieldType} {fs : List Value} {v : Value} (hd : decode m.2.1 pc = .ok (.getfield idx, 3)) (hf : FL m.1.cls idx ci k fin ty) (hw : w.2 a = some (.inr (ci, fs))) (hv : fs[k]? = some v)
    (kk : Rw m X (pc + 3) ls (v :: st) w cl sl) : Rw m X pc ls (.ref a :: st) w cl sl := by
  obtain ⟨p, l, e, R, s, mm, args, below, meth, c, Z, V⟩ := X
  obtain ⟨hV, hx, hb, hml, hr, hlk, hown, hts, hK, hnm⟩ := hC
  intro H locs la hH hL hl
  obtain ⟨C, T, N, h1, ⟨hin, -, -⟩, h3, -, -, h6⟩ := hf
  have hP : va_P V.1 vwCl [(V.2.2.1 a, .inr (ci, fs.map (rl V.2.2.1)))] H := by
    intro k q hq
    have hq2 := List.mem_of_getElem? hq
    rw [List.mem_singleton] at hq2
    subst hq2
    exact (hH.2.2.2 a _ hw).2
  have hv2 : (fs.map (rl V.2.2.1))[k]? = some (rl V.2.2.1 v) := by rw [List.getElem?_map, hv]; rfl
  rcases h6 with ⟨h6, -⟩ | ⟨host, h6⟩
  · exact va_get hx hb (fun w hw => gl_ts hts hw) hin hown hK.1 hP 0 rfl h1 k h3 (gl_ts hts h6) (fun _ h => h) hv2 hd (kk H locs la hH hL hl)
  · exact va_getN hx hb (fun w hw => gl_ts hts hw) hin hown hK.1 hP 0 rfl h1 k h3 (va_Nw.use rfl (hK.2.1 _ h6)) (fun _ h => h) hv2 hd (kk H locs la hH hL hl)
theorem R_put (hC : Cx m X) {a ci k idx : Nat} {ty : FieldType} {fs : List Value} {v : Value} (hd : decode m.2.1 pc = .ok (.putfield idx, 3)) (hf : FL m.1.cls idx ci k false ty) (ha : 16 ≤ a) (hw : w.2 a = some (.inr (ci, fs))) (hkl : k < fs.length) (hn : ∀ r, narrow ty (rl r v) = rl r v ∧ fits ty (rl r v) = true)
    (kk : Rw m X (pc + 3) ls st (w.1, va_up w.2 a (some (.inr (ci, fs.set k v)))) cl sl) : Rw m X pc ls (v :: .ref a :: st) w cl sl := by
  obtain ⟨p, l, e, R, s, mm, args, below, meth, c, Z, V⟩ := X
  obtain ⟨hV, hx, hb, hml, hr, hlk, hown, hts, hK, hnm⟩ := hC
  intro H locs la hH hL hl
  obtain ⟨C, T, N, h1, ⟨hin, ⟨ty0, hty⟩, hnn⟩, hk, hfin, hdt, h6⟩ := hf
  have hap := va_apart (own := m.1.cls) (fun w hw => gl_ts hts hw) hin ty0 hty hnn hK.1 h1
  obtain ⟨r, h2, cell, q1, q2, q3, q4⟩ := (hH.2.2.2 a _ hw).2
  have hr2 : r = (C, T, N) := Option.some.inj (h2.symm.trans h1)
  subst hr2
  obtain ⟨hS, hfc, kC, hkC, hkind⟩ := hK.1.1 ci _ h1
  obtain ⟨cf, kf, fi, f, hi, hsl⟩ := hS k hk
  have hlay := gl_ts hts (hin _ (u_in_lay hk))
  unfold u_lay at hlay
  rw [if_neg (by rw [hfin]; decide)] at hlay
  have hst := (u_facts hfc hkC (u_lays (fun w hw => gl_ts hts hw) hin hk) hi).1
  have h7 := u_store hfc hkC hkind hlay hi hdt (hn V.2.2.1).1 (hn V.2.2.1).2
  have fin : ∀ H' : Heap, H'[V.2.2.1 a]? = some (cell.setSlot f.slot (rl V.2.2.1 v)) → H'.size = H.size → (∀ q, q ≠ V.2.2.1 a → H'[q]? = H[q]?) → W p l e R s mm args below meth c H' (locs ++ [⟨V.2.2.1 a, f.slot⟩]) cl sl Z (F0 mm (pc + 3) la (st.map (rl V.2.2.1))) := by
    intro H' e1 e2 e3
    refine kk H' _ la (HW_set hV hH ha hw ?_ e2 e3) (fr_app hL (rho_fr hV ha)) hl
    rw [hsl] at e1
    refine ⟨_, h1, t_OB.to (V := updV (vp_V (fs.map (rl V.2.2.1))) k (rl V.2.2.1 v)) ⟨_, e1, q2, q3, t_set q4 hap hk _⟩ (fun j _ => ?_)⟩
    show _ = vp_V ((fs.set k v).map (rl V.2.2.1)) j
    rw [List.map_set]
    exact vp_updV_set (by simpa using hkl) _ j
  rcases h6 with ⟨h6, -⟩ | ⟨host, h6⟩
  · exact W.putK hx hb (f := f) ⟨hown, gl_ts hts h6, ⟨_, _, _, hi⟩, hst⟩ (by rw [q2]; exact h7) q1 q3 (by rw [hsl]; exact k2_hasslot (q4 k hk)) rfl rfl hd fin
  · exact va_WputK hx hb (f := f) hown (va_Nw.use rfl (hK.2.1 _ h6)) hi hst (by rw [q2]; exact h7) q1 q3 (by rw [hsl]; exact k2_hasslot (q4 k hk)) rfl rfl hd fin
theorem R_putF (hC : Cx m X) {a ci k idx : Nat} {ty : FieldType} {fs : List Value} {v : Value} (hd : decode m.2.1 pc = .ok (.putfield idx, 3)) (hf : FL m.1.cls idx ci k true ty) (hi0 : m.1.name = "<init>") (ha : 16 ≤ a) (hw : w.2 a = some (.inr (ci, fs))) (hkl : k < fs.length) (hown2 : ∀ (C : String) (T : u_T) (N : Nat), vwCl[ci]? = some (C, T, N) → (T k).1 = m.1.cls) (hn : ∀ r, narrow ty (rl r v) = rl r v ∧ fits ty (rl r v) = true)
    (kk : Rw m X (pc + 3) ls st (w.1, va_up w.2 a (some (.inr (ci, fs.set k v)))) cl sl) : Rw m X pc ls (v :: .ref a :: st) w cl sl := by
  obtain ⟨p, l, e, R, s, mm, args, below, meth, c, Z, V⟩ := X
  obtain ⟨hV, hx, hb, hml, hr, hlk, hown, hts, hK, hnm⟩ := hC
  intro H locs la hH hL hl
  obtain ⟨C, T, N, h1, ⟨hin, ⟨ty0, hty⟩, hnn⟩, hk, hfin, hdt, h6⟩ := hf
  have hap := va_apart (own := m.1.cls) (fun w hw => gl_ts hts hw) hin ty0 hty hnn hK.1 h1
  obtain ⟨r, h2, cell, q1, q2, q3, q4⟩ := (hH.2.2.2 a _ hw).2
  have hr2 : r = (C, T, N) := Option.some.inj (h2.symm.trans h1)
  subst hr2
  obtain ⟨hS, hfc, kC, hkC, hkind⟩ := hK.1.1 ci _ h1
  obtain ⟨cf, kf, fi, f, hi, hsl⟩ := hS k hk
  have hlay := gl_ts hts (hin _ (u_in_lay hk))
  unfold u_lay at hlay
  rw [if_pos hfin] at hlay
  have hst := (u_facts hfc hkC (u_lays (fun w hw => gl_ts hts hw) hin hk) hi).1
  have hcf : mm.cls = cf := by
    obtain ⟨_, _, c', _, _, _, -, -, hf', -, -, -, hown3, -⟩ := Cond.laysFinal_spec hlay
    have e1 : c' = cf := by have := hi.symm.trans hf'; simp at this; exact this.1.symm
    rw [hown2 C T N h1] at hown3
    rw [← e1]; exact Option.some.inj (hown.symm.trans hown3)
  have h7 := u_fits hfc hkC hkind (Or.inr hlay) hi hdt (hn V.2.2.1).1 (hn V.2.2.1).2
  have fin : ∀ H' : Heap, H'[V.2.2.1 a]? = some (cell.setSlot f.slot (rl V.2.2.1 v)) → H'.size = H.size → (∀ q, q ≠ V.2.2.1 a → H'[q]? = H[q]?) → W p l e R s mm args below meth c H' (locs ++ [⟨V.2.2.1 a, f.slot⟩]) cl sl Z (F0 mm (pc + 3) la (st.map (rl V.2.2.1))) := by
    intro H' e1 e2 e3
    refine kk H' _ la (HW_set hV hH ha hw ?_ e2 e3) (fr_app hL (rho_fr hV ha)) hl
    rw [hsl] at e1
    refine ⟨_, h1, t_OB.to (V := updV (vp_V (fs.map (rl V.2.2.1))) k (rl V.2.2.1 v)) ⟨_, e1, q2, q3, t_set q4 hap hk _⟩ (fun j _ => ?_)⟩
    show _ = vp_V ((fs.set k v).map (rl V.2.2.1)) j
    rw [List.map_set]
    exact vp_updV_set (by simpa using hkl) _ j
  rcases h6 with ⟨h6, -⟩ | ⟨host, h6⟩
  · exact W.putFinK hx hb hown (gl_ts hts h6) hi hst hcf (hnm.trans hi0) (by rw [q2]; exact h7) q1 q3 (by rw [hsl]; exact k2_hasslot (q4 k hk)) rfl rfl hd fin
  · refine va_Wputf hx hb hown (va_Nw.use rfl (hK.2.1 _ h6)) hi hst (Or.inr ⟨hcf, hnm.trans hi0⟩) q1 (by rw [q3]; exact fun h => by cases h) (by rw [hsl]; exact k2_hasslot (q4 k hk)) h7.1 (by rw [q2, q3]; exact h7.2) rfl rfl hd ?_
    have hlt : V.2.2.1 a < H.size := (Array.getElem?_eq_some_iff.mp q1).1
    refine fin _ ?_ ?_ ?_
    · simp [Array.getElem?_setIfInBounds, hlt]
    · simp
    · intro q hq
      simp [Array.getElem?_setIfInBounds, Ne.symm hq]
theorem arrK {V : aV} {s : State} (hK : KX V s) {t : Nat} {ty : FieldType} (ht : (tys V)[t]? = some (V.2.1 t, ty)) (n : Nat) (z : Nat → Value) : s.isArrayOf (arrV (V.2.1 t) n z) ty := (hK.1.2 t _ ht).1 n z
theorem R_iaload (hC : Cx m X) {a n : Nat} {f : Nat → Int32} {i : Int32} (hd : decode m.2.1 pc = .ok (.iaload, 1)) (hw : w.2 a = some (.inl (0, n, .inl f))) (hi : vp_in i n)
    (kk : Rw m X (pc + 1) ls (.int (f i.toNatClampNeg) :: st) w cl sl) : Rw m X pc ls (.int i :: .ref a :: st) w cl sl := by
  obtain ⟨p, l, e, R, s, mm, args, below, meth, c, Z, V⟩ := X
  obtain ⟨hV, hx, hb, hml, hr, hlk, hown, hts, hK, hnm⟩ := hC
  intro H locs la hH hL hl
  have hP : va_P V.1 vwCl [(V.2.2.1 a, .inl (V.2.1 0, n, .inl f))] H := by
    intro k q hq
    have hq2 := List.mem_of_getElem? hq
    rw [List.mem_singleton] at hq2
    subst hq2
    exact (hH.2.2.2 a _ hw).2
  exact va_iald hx hb hK.1 hP 0 0 rfl rfl hi hd (kk H locs la hH hL hl)
theorem R_baload (hC : Cx m X) {a n : Nat} {f : Nat → Int32} {i : Int32} (hd : decode m.2.1 pc = .ok (.baload, 1)) (hw : w.2 a = some (.inl (1, n, .inl f))) (hi : vp_in i n)
    (kk : Rw m X (pc + 1) ls (.int (f i.toNatClampNeg) :: st) w cl sl) : Rw m X pc ls (.int i :: .ref a :: st) w cl sl := by
  obtain ⟨p, l, e, R, s, mm, args, below, meth, c, Z, V⟩ := X
  obtain ⟨hV, hx, hb, hml, hr, hlk, hown, hts, hK, hnm⟩ := hC
  intro H locs la hH hL hl
  have hP : va_P V.1 vwCl [(V.2.2.1 a, .inl (V.2.1 1, n, .inl f))] H := by
    intro k q hq
    have hq2 := List.mem_of_getElem? hq
    rw [List.mem_singleton] at hq2
    subst hq2
    exact (hH.2.2.2 a _ hw).2
  exact va_bald hx hb hK.1 hP 0 1 rfl rfl hi hd (kk H locs la hH hL hl)
theorem R_aaload (hC : Cx m X) {a n t b : Nat} {f : Nat → Option Nat} {i : Int32} (hd : decode m.2.1 pc = .ok (.aaload, 1)) (hw : w.2 a = some (.inl (t, n, .inr (.inr (.inr (.inr f)))))) (ht : t = 3 ∨ t = 4) (hi : vp_in i n) (hb2 : f i.toNatClampNeg = some b)
    (kk : Rw m X (pc + 1) ls (.ref b :: st) w cl sl) : Rw m X pc ls (.int i :: .ref a :: st) w cl sl := by
  obtain ⟨p, l, e, R, s, mm, args, below, meth, c, Z, V⟩ := X
  obtain ⟨hV, hx, hb, hml, hr, hlk, hown, hts, hK, hnm⟩ := hC
  intro H locs la hH hL hl
  have hP : va_P V.1 vwCl [(V.2.2.1 a, .inl (V.2.1 t, n, .inr (.inr (.inr (.inr (fun j => (f j).map V.2.2.1))))))] H := by
    intro k q hq
    have hq2 := List.mem_of_getElem? hq
    rw [List.mem_singleton] at hq2
    subst hq2
    exact (hH.2.2.2 a _ hw).2
  have hk := kk H locs la hH hL hl
  have e1 : (Value.ref (V.2.2.1 b)) = va_rf ((f i.toNatClampNeg).map V.2.2.1) := by rw [hb2]; rfl
  have hk2 : W p l e R s mm args below meth c H locs cl sl Z (F0 mm (pc + 1) la (va_rf ((f i.toNatClampNeg).map V.2.2.1) :: st.map (rl V.2.2.1))) := by rw [← e1]; exact hk
  rcases ht with rfl | rfl
  · exact va_aldq hx hb hK.1 hP 0 3 rfl rfl hi hd hk2
  · exact va_aldq hx hb hK.1 hP 0 4 rfl rfl hi hd hk2
theorem R_alen (hC : Cx m X) {a n : Nat} {t : Nat} {f : Nat → Int32} (hd : decode m.2.1 pc = .ok (.arraylength, 1)) (hw : w.2 a = some (.inl (t, n, .inl f))) (ht : t = 0 ∨ t = 1)
    (kk : Rw m X (pc + 1) ls (.int (nI n) :: st) w cl sl) : Rw m X pc ls (.ref a :: st) w cl sl := by
  obtain ⟨p, l, e, R, s, mm, args, below, meth, c, Z, V⟩ := X
  obtain ⟨hV, hx, hb, hml, hr, hlk, hown, hts, hK, hnm⟩ := hC
  intro H locs la hH hL hl
  have hc : H[V.2.2.1 a]? = some (arrV (V.2.1 t) n (fun j => .int (f j))) := (hH.2.2.2 a _ hw).2
  rcases ht with rfl | rfl
  · exact W.alen hx hb hc (arrK hK (t := 0) rfl n _) (by rw [arrV_size]; rfl) rfl rfl hd (kk H locs la hH hL hl)
  · exact W.alen hx hb hc (arrK hK (t := 1) rfl n _) (by rw [arrV_size]; rfl) rfl rfl hd (kk H locs la hH hL hl)
theorem R_iastore (hC : Cx m X) {a n : Nat} {f : Nat → Int32} {i x : Int32} (hd : decode m.2.1 pc = .ok (.iastore, 1)) (ha : 16 ≤ a) (hw : w.2 a = some (.inl (0, n, .inl f))) (hi : vp_in i n)
    (kk : Rw m X (pc + 1) ls st (w.1, va_up w.2 a (some (.inl (0, n, .inl (upd f i.toNatClampNeg x))))) cl sl) : Rw m X pc ls (.int x :: .int i :: .ref a :: st) w cl sl := by
  obtain ⟨p, l, e, R, s, mm, args, below, meth, c, Z, V⟩ := X
  obtain ⟨hV, hx, hb, hml, hr, hlk, hown, hts, hK, hnm⟩ := hC
  intro H locs la hH hL hl
  have hc : H[V.2.2.1 a]? = some (arrV (V.2.1 0) n (fun j => .int (f j))) := (hH.2.2.2 a _ hw).2
  refine W.iast hx hb hc (arrK hK (t := 0) rfl n _) (fun q => by cases q) (by rw [arrV_size]; exact hi) rfl rfl hd fun H1 e z oq => ?_
  refine kk H1 _ la (HW_set hV hH ha hw ?_ z oq) (fr_app hL (rho_fr hV ha)) hl
  show H1[V.2.2.1 a]? = some (vp_cell (V.2.1 0) (n, .inl (upd f i.toNatClampNeg x)))
  rw [e, arrV_store, vp_cell_i]
  congr 2
  funext q
  by_cases hq : q = i.toNatClampNeg
  · subst hq
    simp [updV, upd]
  · simp [updV, upd, hq]
theorem R_bastore (hC : Cx m X) {a n : Nat} {f : Nat → Int32} {i x : Int32} (hd : decode m.2.1 pc = .ok (.bastore, 1)) (ha : 16 ≤ a) (hw : w.2 a = some (.inl (1, n, .inl f))) (hi : vp_in i n)
    (kk : Rw m X (pc + 1) ls st (w.1, va_up w.2 a (some (.inl (1, n, .inl (upd f i.toNatClampNeg (vp_nar .byte x)))))) cl sl) : Rw m X pc ls (.int x :: .int i :: .ref a :: st) w cl sl := by
  obtain ⟨p, l, e, R, s, mm, args, below, meth, c, Z, V⟩ := X
  obtain ⟨hV, hx, hb, hml, hr, hlk, hown, hts, hK, hnm⟩ := hC
  intro H locs la hH hL hl
  have hc : H[V.2.2.1 a]? = some (arrV (V.2.1 1) n (fun j => .int (f j))) := (hH.2.2.2 a _ hw).2
  refine W.bast hx hb hc (arrK hK (t := 1) rfl n _) (fun q => by cases q) (by rw [arrV_size]; exact hi) rfl rfl hd fun H1 e z oq => ?_
  refine kk H1 _ la (HW_set hV hH ha hw ?_ z oq) (fr_app hL (rho_fr hV ha)) hl
  show H1[V.2.2.1 a]? = some (vp_cell (V.2.1 1) (n, .inl (upd f i.toNatClampNeg (vp_nar .byte x))))
  rw [e, arrV_store, vp_cell_i]
  congr 2
  funext q
  by_cases hq : q = i.toNatClampNeg
  · subst hq
    simp [updV, upd, vp_nar, narrow]
  · simp [updV, upd, hq]
theorem R_copy (hC : Cx m X) {a a0 n0 n1 idx dd mc ms : Nat} {f g : Nat → Int32} {sp dp n : Int32} (hR : Rd X dd mc ms) (hd : decode m.2.1 pc = .ok (.invokestatic idx, 3)) (hlink : Cond.methodLink m.1.cls idx arraycopyName ∈ lw_gl) (hnat : Cond.native arraycopyName ∈ lw_gl) (hstat : Cond.static arraycopyName ∈ lw_gl) (hini : Cond.initialized "java/lang/System" ∈ lw_gl) (hdd : 1 ≤ dd) (ha : 16 ≤ a)
    (hw0 : w.2 a0 = some (.inl (0, n0, .inl f))) (hw : w.2 a = some (.inl (0, n1, .inl g))) (h1 : ¬ sp < 0) (h2 : ¬ dp < 0) (h3 : ¬ n < 0) (h4 : sp.toNatClampNeg + n.toNatClampNeg ≤ n0) (h5 : dp.toNatClampNeg + n.toNatClampNeg ≤ n1) (hcat : (st.map fun v => v.category).sum ≤ 8)
    (kk : Rw m X (pc + 3) ls st (w.1, va_up w.2 a (some (.inl (0, n1, .inl (va_cpy f g sp.toNatClampNeg dp.toNatClampNeg n.toNatClampNeg))))) cl sl) : Rw m X pc ls (.int n :: .int dp :: .ref a :: .int sp :: .ref a0 :: st) w cl sl := by
  obtain ⟨p, l, e, R, s, mm, args, below, meth, c, Z, V⟩ := X
  obtain ⟨hV, hx, hb, hml, hr, hlk, hown, hts, hK, hnm⟩ := hC
  obtain ⟨r1, r2, r3, r4⟩ := hR
  intro H locs la hH hL hl
  have nn : ∀ z : Int32, ¬ z < 0 → z.toInt = (z.toNatClampNeg : Int) := by
    intro z hz
    have hz0 : (0 : Int) ≤ z.toInt := by
      have := Int32.not_lt.mp hz
      simpa using Int32.le_iff_toInt_le.mp this
    show z.toInt = ((z.toInt.toNat : Nat) : Int)
    omega
  have hcs : ((st.map (rl V.2.2.1)).map fun v => v.category).sum = (st.map fun v => v.category).sum := by
    rw [List.map_map]
    congr 1
    exact List.map_congr_left (fun v _ => rl_cat _ v)
  intro T hT X
  have hc0 : H[V.2.2.1 a0]? = some (vp_cell (V.2.1 0) (n0, .inl f)) := (hH.2.2.2 a0 _ hw0).2
  have hc1 : H[V.2.2.1 a]? = some (vp_cell (V.2.1 0) (n1, .inl g)) := (hH.2.2.2 a _ hw).2
  obtain ⟨-, k0, hk0, cm0, hkk0⟩ := arrK hK (t := 0) rfl n0 (fun j => .int (f j))
  obtain ⟨-, k1, hk1, cm1, hkk1⟩ := arrK hK (t := 0) rfl n1 (fun j => .int (g j))
  obtain ⟨vm', X', step⟩ := X.arraycopy hx hown (gl_ts hts hlink) (gl_ts hts hnat) (gl_ts hts hstat) (gl_ts hts hini) (src := V.2.2.1 a0) (dst := V.2.2.1 a) (cs := vp_cell (V.2.1 0) (n0, .inl f)) (cd := vp_cell (V.2.1 0) (n1, .inl g)) (srcPos := sp) (destPos := dp) (n := n) (by rw [hT]; exact hc0) (by rw [hT]; exact hc1)
    (fun _ h => by cases h) (fun _ h => by cases h) (fun h => by cases h) (fun h => by cases h) hk0 hk1 hkk0 hkk1 (by simp [refKind]) h1 h2 h3
    (by rw [nn sp h1, nn n h3]; show ¬ _ > ((arrV (V.2.1 0) n0 (fun j => .int (f j))).slots.size : Int); rw [arrV_size]; omega)
    (by rw [nn dp h2, nn n h3]; show ¬ _ > ((arrV (V.2.1 0) n1 (fun j => .int (g j))).slots.size : Int); rw [arrV_size]; omega)
    (fun vm₁ _ i hi => by
      have e : (vp_cell (V.2.1 0) (n0, .inl f)).slots.getD (sp.toNatClampNeg + i) .null = .int (f (sp.toNatClampNeg + i)) := by
        show (arrV (V.2.1 0) n0 (fun j => .int (f j))).slots.getD _ _ = _
        rw [Array.getD_eq_getD_getElem?, arrV_read _ _ (by omega)]
        rfl
      refine ⟨?_, ?_⟩
      · rw [e]
        rfl
      · rw [e]
        exact trivial)
    (g := F0 mm pc la (.int n :: .int dp :: .ref (V.2.2.1 a) :: .int sp :: .ref (V.2.2.1 a0) :: st.map (rl V.2.2.1))) rfl (by rw [hml]; exact hl.1) (rest := st.map (rl V.2.2.1)) rfl (by rw [hb]; exact hd) (by omega) (by
      show 2 * 0 + _ + _ ≤ _
      have hq : nativeFrameWords "java/lang/System" "arraycopy" 5 + 11 ≤ 100 := by decide +kernel
      rw [hcs]; omega)
  have e1 : copied (vp_cell (V.2.1 0) (n0, .inl f)) (vp_cell (V.2.1 0) (n1, .inl g)) sp dp n = vp_cell (V.2.1 0) (n1, .inl (va_cpy f g sp.toNatClampNeg dp.toNatClampNeg n.toNatClampNeg)) := va_copied (fun z => .int z) _ _ f g h4
  rw [e1] at X' step
  have hlt : V.2.2.1 a < H.size := (Array.getElem?_eq_some_iff.mp hc1).1
  have hheap : ((T.setVm vm').setCell (V.2.2.1 a) (vp_cell (V.2.1 0) (n1, .inl (va_cpy f g sp.toNatClampNeg dp.toNatClampNeg n.toNatClampNeg)))).heap = H.setIfInBounds (V.2.2.1 a) (vp_cell (V.2.1 0) (n1, .inl (va_cpy f g sp.toNatClampNeg dp.toNatClampNeg n.toNatClampNeg))) := by rw [← hT]; rfl
  have oq : ∀ q : Nat, q ≠ V.2.2.1 a → (H.setIfInBounds (V.2.2.1 a) (vp_cell (V.2.1 0) (n1, .inl (va_cpy f g sp.toNatClampNeg dp.toNatClampNeg n.toNatClampNeg))))[q]? = H[q]? := fun q hq => by simp [Array.getElem?_setIfInBounds, Ne.symm hq]
  obtain ⟨t, a1, b1⟩ := kk _ _ la (HW_set hV hH ha hw (show (H.setIfInBounds (V.2.2.1 a) _)[V.2.2.1 a]? = some _ by simp [Array.getElem?_setIfInBounds, hlt]; rfl) (by simp) oq) (fun q hq => by
      rcases List.mem_append.mp hq with h | h
      · exact hL q h
      · obtain ⟨z, -, hz⟩ := List.mem_map.mp h
        rw [← hz]
        exact rho_fr hV ha) hl _ hheap X'
  exact ⟨t, step t a1, b1⟩
end WRULES
end
section
theorem aPc_blind {V : aV} {as : List Value} {w : aW} : FrameBlind (aPc V as w) := fun a U g mk h => ⟨h.1, h.2.1, KX.same (s := U) (U := U.calling g mk a) rfl h.2.2⟩
theorem wsOf_good {m j : mi} (hj : MI j) : GoodIn (wsOf m) (wsOf j) := by
  intro w hw
  rcases List.mem_cons.mp hw with rfl | h
  · exact ⟨List.mem_cons_of_mem _ hj.2.1, good_of_word (List.mem_filter.mp hj.2.1).2⟩
  · exact ⟨List.mem_cons_of_mem _ h, good_of_word (List.mem_filter.mp h).2⟩
theorem cat_map (r : Nat → Nat) (st : List Value) : ((st.map (rl r)).map fun v => v.category).sum = (st.map fun v => v.category).sum := by
  rw [List.map_map]
  congr 1
  exact List.map_congr_left (fun v _ => rl_cat _ v)
theorem run_go {p : Program} {l : Launch} {e : Env} {R : Room} {s : State} {mm : MethodId} {args : Array Value} {below : List Frame} {meth : Method} {c : Code} {H : Heap} {locs : List Loc} {cl sl mc ms : Nat} {Z : State → Prop} {V : aV} {pc : Nat} {la : Array Slot} {st0 st : List Value} {Q : Option Value → aW → Prop} {a : Array Value}
    (hL : ∀ q ∈ locs, fr V q.base)
    (hr : va_Run p l e R s mm args below meth c H locs cl sl mc ms (F0 mm pc la st0) (st.map (rl V.2.2.1)) (aQc V Q a) (fr V))
    (kk : ∀ (r : Option Value) (w : aW), Q r w → ∀ (H1 : Heap) (locs1 : List Loc), HW V w H1 → (∀ q ∈ locs1, fr V q.base) → W p l e R s mm args below meth c H1 locs1 (cl + mc) (sl + ms) Z (F0 mm (pc + 3) la ((r.toList ++ st).map (rl V.2.2.1)))) :
    W p l e R s mm args below meth c H locs cl sl Z (F0 mm pc la st0) := by
  intro T hT X
  obtain ⟨v, st₀, t, T', L, h0, X', hL2, e1, e2, ⟨r, w, hv, hq, hw⟩, stp⟩ := hr T hT X
  cases hv
  obtain ⟨t2, a1, b1⟩ := kk r w hq T'.heap (locs ++ L) (by rw [e1]; exact hw) (fun q hq => (List.mem_append.mp hq).elim (hL q) (hL2 q)) T' rfl X'
  refine ⟨t2, stp t2 ?_, b1⟩
  have e3 : ((r.toList ++ st).map (rl V.2.2.1)) = (r.map (rl V.2.2.1)).toList ++ st.map (rl V.2.2.1) := by
    cases r <;> simp
  rw [e3] at a1
  exact a1
section CRULES
variable {m : mi} {X : aX} {pc : Nat} {ls : List (Option Value)} {st : List Value} {w : aW} {cl sl : Nat}
theorem R_callV (hC : Cx m X) {j : mi} {n idx a ci d dd mc ms mcX msX N : Nat} {T : u_T} {fs As : List Value} {Q : Option Value → aW → Prop} (hR : Rd X dd mcX msX) (hd : decode m.2.1 pc = .ok (.invokevirtual idx, 3)) (hj : MV j n) (hl : ML m.1.cls idx j) (hw : w.2 a = some (.inr (ci, fs))) (hcl : vwCl[ci]? = some (j.1.cls, T, N)) (hM : Mt j d mc ms (.ref a :: As) w Q)
    (hn : As.length = n) (hdd : d + 1 ≤ dd) (hroom : cl + mc ≤ mcX ∧ sl + ms ≤ msX) (hcat : (st.map fun v => v.category).sum ≤ 8)
    (kk : ∀ (r : Option Value) (w' : aW), Q r w' → Rw m X (pc + 3) ls (r.toList ++ st) w' (cl + mc) (sl + ms)) : Rw m X pc ls (As.reverse ++ .ref a :: st) w cl sl := by
  obtain ⟨p, l, e, R, s, mm, args, below, meth, c, Z, V⟩ := X
  obtain ⟨hV, hx, hb, hml, hr, hlk, hown, hts, hK, hnm⟩ := hC
  obtain ⟨r1, r2, r3, r4⟩ := hR
  intro H locs la hH hL hl2
  have hcb : Cond.code j.1 j.2.1 j.2.2.1 j.2.2.2 ∈ wsOf j := List.mem_cons_self
  have hrec : ∃ cellB : Cell, H[V.2.2.1 a]? = some cellB ∧ cellB.vm.isStatics = false ∧ s.vm.findClass j.1.cls = some cellB.cls := by
    have hP : va_P V.1 vwCl [(V.2.2.1 a, .inr (ci, fs.map (rl V.2.2.1)))] H := by
      intro k q hq
      have hq2 := List.mem_of_getElem? hq
      rw [List.mem_singleton] at hq2
      subst hq2
      exact (hH.2.2.2 a _ hw).2
    exact va_recv hK.1 hP (ci := ci) (q0 := 0) hcl rfl
  have hpre : PreV s H j.1.cls (V.2.2.1 a) (aPc V (.ref a :: As) w) (As.map (rl V.2.2.1)) := ⟨aPc_blind, hrec, fun U hU hW => ⟨rfl, by rw [hU]; exact hH, hK.moved hW⟩⟩
  have hsig : ∀ sig, parseMethodDescriptor j.1.desc = some sig → n = sig.parameters.length := fun sig h => by
    have h2 := hj.2.2.2
    rw [h] at h2
    exact (Option.some.inj h2).symm
  have hst : (As.reverse ++ .ref a :: st).map (rl V.2.2.1) = (As.map (rl V.2.2.1)).reverse ++ .ref (V.2.2.1 a) :: st.map (rl V.2.2.1) := by
    rw [List.map_append, List.map_reverse]; rfl
  have hrm : (rmD d mc ms).frames + 1 ≤ R.frames ∧ 8 + (j.2.2.1 + 11) + (rmD d mc ms).locals ≤ R.locals := by
    have := hj.1.2.2.2.2
    constructor
    · show d + 1 ≤ _; omega
    · show 8 + (j.2.2.1 + 11) + (60 * d + 60) ≤ _; omega
  have hroom2 : cl + mc ≤ R.cells ∧ sl + ms ≤ R.slots := ⟨by omega, by omega⟩
  refine run_go (a := (Value.ref (V.2.2.1 a) :: As.map (rl V.2.2.1)).toArray) (Q := Q) hL ?_ (fun r w' hq H1 locs1 g1 g2 => kk r w' hq H1 locs1 la g1 g2 hl2)
  rcases hl with hl | ⟨host, hl⟩
  · exact va_runV (C := j.1.cls) (bytes := j.2.1) (maxL := j.2.2.1) (ret := j.2.2.2) (n := n) ⟨hx, hb, hml, hown, hts⟩ (hM l V hV) ⟨⟨rfl, rfl, hrm.1, hrm.2, pay_in hts (wsOf_good hj.1), hcb, gl_ts hts hj.1.2.1, gl_ts hts hj.1.2.2.1, hj.1.2.2.2.1, hsig, gl_ts hts hl⟩, gl_ts hts hj.2.1, gl_ts hts hj.2.2.1⟩ hpre rfl (by rw [List.length_map]; exact hn) hl2.1 hst (lv_room (by rw [cat_map]; exact hcat)) hd hroom2
  · exact va_runVN (C := j.1.cls) (bytes := j.2.1) (maxL := j.2.2.1) (ret := j.2.2.2) (n := n) ⟨hx, hb, hml, hown, hts⟩ (hM l V hV) ⟨⟨⟨rfl, rfl, hrm.1, hrm.2, pay_in hts (wsOf_good hj.1), hcb⟩, gl_ts hts hj.1.2.1, gl_ts hts hj.1.2.2.1, hj.1.2.2.2.1, hsig, va_Nw.use rfl (hK.2.1 _ hl)⟩, gl_ts hts hj.2.1, gl_ts hts hj.2.2.1⟩ hpre rfl (by rw [List.length_map]; exact hn) hl2.1 hst (lv_room (by rw [cat_map]; exact hcat)) hd hroom2
theorem R_callS (hC : Cx m X) {j : mi} {n idx d dd mc ms mcX msX : Nat} {As : List Value} {Q : Option Value → aW → Prop} (hR : Rd X dd mcX msX) (hd : decode m.2.1 pc = .ok (.invokestatic idx, 3)) (hj : MS j n) (hl : ML m.1.cls idx j) (hM : Mt j d mc ms As w Q)
    (hn : As.length = n) (hdd : d + 1 ≤ dd) (hroom : cl + mc ≤ mcX ∧ sl + ms ≤ msX) (hcat : (st.map fun v => v.category).sum ≤ 8)
    (kk : ∀ (r : Option Value) (w' : aW), Q r w' → Rw m X (pc + 3) ls (r.toList ++ st) w' (cl + mc) (sl + ms)) : Rw m X pc ls (As.reverse ++ st) w cl sl := by
  obtain ⟨p, l, e, R, s, mm, args, below, meth, c, Z, V⟩ := X
  obtain ⟨hV, hx, hb, hml, hr, hlk, hown, hts, hK, hnm⟩ := hC
  obtain ⟨r1, r2, r3, r4⟩ := hR
  intro H locs la hH hL hl2
  have hcb : Cond.code j.1 j.2.1 j.2.2.1 j.2.2.2 ∈ wsOf j := List.mem_cons_self
  have hpre : PreS s H (aPc V As w) (As.map (rl V.2.2.1)) := ⟨aPc_blind, fun U hU hW => ⟨rfl, by rw [hU]; exact hH, hK.moved hW⟩⟩
  have hsig : ∀ sig, parseMethodDescriptor j.1.desc = some sig → n = sig.parameters.length := fun sig h => by
    have h2 := hj.2.2
    rw [h] at h2
    exact (Option.some.inj h2).symm
  have hst : (As.reverse ++ st).map (rl V.2.2.1) = (As.map (rl V.2.2.1)).reverse ++ st.map (rl V.2.2.1) := by
    rw [List.map_append, List.map_reverse]
  have hrm : (rmD d mc ms).frames + 1 ≤ R.frames ∧ 8 + (j.2.2.1 + 11) + (rmD d mc ms).locals ≤ R.locals := by
    have := hj.1.2.2.2.2
    constructor
    · show d + 1 ≤ _; omega
    · show 8 + (j.2.2.1 + 11) + (60 * d + 60) ≤ _; omega
  have hroom2 : cl + mc ≤ R.cells ∧ sl + ms ≤ R.slots := ⟨by omega, by omega⟩
  refine run_go (a := (As.map (rl V.2.2.1)).toArray) (Q := Q) hL ?_ (fun r w' hq H1 locs1 g1 g2 => kk r w' hq H1 locs1 la g1 g2 hl2)
  rcases hl with hl | ⟨host, hl⟩
  · exact va_runS (bytes := j.2.1) (maxL := j.2.2.1) (ret := j.2.2.2) (n := n) ⟨hx, hb, hml, hown, hts⟩ (hM l V hV) ⟨⟨rfl, rfl, hrm.1, hrm.2, pay_in hts (wsOf_good hj.1), hcb, gl_ts hts hj.1.2.1, gl_ts hts hj.1.2.2.1, hj.1.2.2.2.1, hsig, gl_ts hts hl⟩, gl_ts hts hj.2.1⟩ hpre rfl (by rw [List.length_map]; exact hn) hl2.1 hst (lv_room (by rw [cat_map]; exact hcat)) hd hroom2
  · exact va_runSN (bytes := j.2.1) (maxL := j.2.2.1) (ret := j.2.2.2) (n := n) ⟨hx, hb, hml, hown, hts⟩ (hM l V hV) ⟨⟨⟨rfl, rfl, hrm.1, hrm.2, pay_in hts (wsOf_good hj.1), hcb⟩, gl_ts hts hj.1.2.1, gl_ts hts hj.1.2.2.1, hj.1.2.2.2.1, hsig, va_Nw.use rfl (hK.2.1 _ hl)⟩, gl_ts hts hj.2.1, trivial⟩ hpre rfl (by rw [List.length_map]; exact hn) hl2.1 hst (lv_room (by rw [cat_map]; exact hcat)) hd hroom2
theorem R_callI (hC : Cx m X) {j : mi} {n idx a d dd mc ms mcX msX : Nat} {As : List Value} {Q : Option Value → aW → Prop} (hR : Rd X dd mcX msX) (hd : decode m.2.1 pc = .ok (.invokespecial idx, 3)) (hj : MN j n) (hl : ML m.1.cls idx j) (hM : Mt j d mc ms (.ref a :: As) w Q)
    (hn : As.length = n) (hdd : d + 1 ≤ dd) (hroom : cl + mc ≤ mcX ∧ sl + ms ≤ msX) (hcat : (st.map fun v => v.category).sum ≤ 8)
    (kk : ∀ (r : Option Value) (w' : aW), Q r w' → Rw m X (pc + 3) ls (r.toList ++ st) w' (cl + mc) (sl + ms)) : Rw m X pc ls (As.reverse ++ .ref a :: st) w cl sl := by
  obtain ⟨p, l, e, R, s, mm, args, below, meth, c, Z, V⟩ := X
  obtain ⟨hV, hx, hb, hml, hr, hlk, hown, hts, hK, hnm⟩ := hC
  obtain ⟨r1, r2, r3, r4⟩ := hR
  intro H locs la hH hL hl2
  have hcb : Cond.code j.1 j.2.1 j.2.2.1 none ∈ wsOf j := by rw [← hj.2.2.1]; exact List.mem_cons_self
  have hcg : Cond.code j.1 j.2.1 j.2.2.1 none ∈ lw_gl := by rw [← hj.2.2.1]; exact hj.1.2.1
  have hpre : PreS s H (aPc V (.ref a :: As) w) (.ref (V.2.2.1 a) :: As.map (rl V.2.2.1)) := ⟨aPc_blind, fun U hU hW => ⟨rfl, by rw [hU]; exact hH, hK.moved hW⟩⟩
  have hsig : ∀ sig, parseMethodDescriptor j.1.desc = some sig → n = sig.parameters.length := fun sig h => by
    have h2 := hj.2.2.2.2
    rw [h] at h2
    exact (Option.some.inj h2).symm
  have hst : (As.reverse ++ .ref a :: st).map (rl V.2.2.1) = (As.map (rl V.2.2.1)).reverse ++ .ref (V.2.2.1 a) :: st.map (rl V.2.2.1) := by
    rw [List.map_append, List.map_reverse]; rfl
  have hrm : (rmD d mc ms).frames + 1 ≤ R.frames ∧ 8 + (j.2.2.1 + 11) + (rmD d mc ms).locals ≤ R.locals := by
    have := hj.1.2.2.2.2
    constructor
    · show d + 1 ≤ _; omega
    · show 8 + (j.2.2.1 + 11) + (60 * d + 60) ≤ _; omega
  have hroom2 : cl + mc ≤ R.cells ∧ sl + ms ≤ R.slots := ⟨by omega, by omega⟩
  refine run_go (a := (Value.ref (V.2.2.1 a) :: As.map (rl V.2.2.1)).toArray) (Q := Q) hL ?_ (fun r w' hq H1 locs1 g1 g2 => kk r w' hq H1 locs1 la g1 g2 hl2)
  rcases hl with hl | ⟨host, hl⟩
  · exact va_runI (bytes := j.2.1) (maxL := j.2.2.1) (n := n) ⟨hx, hb, hml, hown, hts⟩ (hM l V hV) ⟨⟨rfl, rfl, hrm.1, hrm.2, pay_in hts (wsOf_good hj.1), hcb, gl_ts hts hcg, gl_ts hts hj.1.2.2.1, hj.1.2.2.2.1, hsig, gl_ts hts hl⟩, hj.2.1, gl_ts hts hj.2.2.2.1⟩ hpre rfl (by rw [List.length_map]; exact hn) hl2.1 hst (lv_room (by rw [cat_map]; exact hcat)) hd hroom2
  · exact va_runIN (bytes := j.2.1) (maxL := j.2.2.1) (n := n) ⟨hx, hb, hml, hown, hts⟩ (hM l V hV) ⟨⟨⟨rfl, rfl, hrm.1, hrm.2, pay_in hts (wsOf_good hj.1), hcb⟩, gl_ts hts hcg, gl_ts hts hj.1.2.2.1, hj.1.2.2.2.1, hsig, va_Nw.use rfl (hK.2.1 _ hl)⟩, hj.2.1, gl_ts hts hj.2.2.2.1⟩ hpre rfl (by rw [List.length_map]; exact hn) hl2.1 hst (lv_room (by rw [cat_map]; exact hcat)) hd hroom2
theorem R_obj (hC : Cx m X) {idx a dd mcX msX : Nat} (hR : Rd X dd mcX msX) (hd : decode m.2.1 pc = .ok (.invokespecial idx, 3)) (hdd : 1 ≤ dd) (hlink : Cond.methodLink m.1.cls idx Lib.objectInit ∈ lw_gl) (hinst : Cond.instanceMethod Lib.objectInit ∈ lw_gl) (hcode : Cond.code Lib.objectInit ⟨#[0xb1]⟩ 1 none ∈ lw_gl) (hcat : (st.map fun v => v.category).sum ≤ 8)
    (kk : Rw m X (pc + 3) ls st w cl sl) : Rw m X pc ls (.ref a :: st) w cl sl := by
  obtain ⟨p, l, e, R, s, mm, args, below, meth, c, Z, V⟩ := X
  obtain ⟨hV, hx, hb, hml, hr, hlk, hown, hts, hK, hnm⟩ := hC
  obtain ⟨r1, r2, r3, r4⟩ := hR
  intro H locs la hH hL hl
  refine W.objInit hx hb hown (gl_ts hts hlink) (gl_ts hts hinst) (gl_ts hts hcode) rfl (by rw [hml]; exact hl.1) rfl hd (by omega) ?_ (kk H locs la hH hL hl)
  show 2 * 0 + ((st.map (rl V.2.2.1)).map fun v => v.category).sum + 12 ≤ _
  rw [cat_map]; omega
theorem R_iret (hC : Cx m X) {Q : Option Value → aW → Prop} {v : Int32} (hT : Rt X cl sl Q) (hd : decode m.2.1 pc = .ok (.ireturn, 1)) (hret : m.2.2.2 = some .int) (hq : Q (some (.int v)) w) : Rw m X pc ls [.int v] w cl sl := by
  obtain ⟨p, l, e, R, s, mm, args, below, meth, c, Z, V⟩ := X
  obtain ⟨hV, hx, hb, hml, hr, hlk, hown, hts, hK, hnm⟩ := hC
  intro H locs la hH hL hl
  have hT : Z = MQ below (aQc V Q) args s cl sl (fr V) := hT
  subst hT
  exact W.iret hx hb (hr.trans hret) (fun t ht hW => ⟨some (.int v), w, rfl, hq, by rw [ht]; exact hH⟩) hL hd hlk
theorem R_zret (hC : Cx m X) {Q : Option Value → aW → Prop} {v : Int32} {ty : FieldType} (hT : Rt X cl sl Q) (hd : decode m.2.1 pc = .ok (.ireturn, 1)) (hret : m.2.2.2 = some ty) (hn : narrow ty (.int v) = .int v) (hq : Q (some (.int v)) w) : Rw m X pc ls [.int v] w cl sl := by
  obtain ⟨p, l, e, R, s, mm, args, below, meth, c, Z, V⟩ := X
  obtain ⟨hV, hx, hb, hml, hr, hlk, hown, hts, hK, hnm⟩ := hC
  intro H locs la hH hL hl
  have hT : Z = MQ below (aQc V Q) args s cl sl (fr V) := hT
  subst hT
  exact W.zret hx hb (hr.trans hret) hn (fun t ht hW => ⟨some (.int v), w, rfl, hq, by rw [ht]; exact hH⟩) hL hd hlk
theorem R_vret (hC : Cx m X) {Q : Option Value → aW → Prop} (hT : Rt X cl sl Q) (hd : decode m.2.1 pc = .ok (.return_, 1)) (hret : m.2.2.2 = none) (hq : Q none w) : Rw m X pc ls [] w cl sl := by
  obtain ⟨p, l, e, R, s, mm, args, below, meth, c, Z, V⟩ := X
  obtain ⟨hV, hx, hb, hml, hr, hlk, hown, hts, hK, hnm⟩ := hC
  intro H locs la hH hL hl
  have hT : Z = MQ below (aQc V Q) args s cl sl (fr V) := hT
  subst hT
  exact W.vret hx hb (hr.trans hret) (fun t ht hW => ⟨none, w, rfl, hq, by rw [ht]; exact hH⟩) hL hd hlk
theorem R_aret (hC : Cx m X) {Q : Option Value → aW → Prop} {a : Nat} {n : String} (hT : Rt X cl sl Q) (hd : decode m.2.1 pc = .ok (.areturn, 1)) (hret : m.2.2.2 = some (.object n)) (hq : Q (some (.ref a)) w) : Rw m X pc ls [.ref a] w cl sl := by
  obtain ⟨p, l, e, R, s, mm, args, below, meth, c, Z, V⟩ := X
  obtain ⟨hV, hx, hb, hml, hr, hlk, hown, hts, hK, hnm⟩ := hC
  intro H locs la hH hL hl
  have hT : Z = MQ below (aQc V Q) args s cl sl (fr V) := hT
  subst hT
  exact W.aret hx hb (hr.trans hret) (Or.inl ⟨n, rfl⟩) (Or.inr ⟨_, rfl⟩) (fun t ht hW => ⟨some (.ref a), w, rfl, hq, by rw [ht]; exact hH⟩) hL hd hlk
theorem R_widen {cl' sl' : Nat} (h1 : cl ≤ cl') (h2 : sl ≤ sl') (k : Rw m X pc ls st w cl' sl') : Rw m X pc ls st w cl sl := by
  obtain ⟨p, l, e, R, s, mm, args, below, meth, c, Z, V⟩ := X
  intro H locs la hH hL hl
  exact W.widen h1 h2 (k H locs la hH hL hl)
end CRULES
/-- the locals at a method's entry -/
def entL : List Value → List (Option Value)
  | [] => []
  | v :: t => if v.category = 2 then some v :: none :: entL t else some v :: entL t
def ent (as : List Value) (n : Nat) : List (Option Value) := entL as ++ List.replicate (n - (entL as).length) none
theorem lvl_none (r : Nat → Nat) : ∀ (n i : Nat), lvl r i (List.replicate n none) = []
  | 0, _ => rfl
  | n + 1, i => by rw [List.replicate_succ, lvl, lvl_none r n]
theorem lvl_ent (r : Nat → Nat) (n : Nat) : ∀ (as : List Value) (i : Nat), lvl r i (entL as ++ List.replicate n none) = lv_args i (as.map (rl r))
  | [], i => by simp [entL, lv_args, lvl_none]
  | v :: t, i => by
    rw [List.map_cons, lv_args, rl_cat]
    by_cases h : v.category = 2
    · simp only [entL, h, if_true, List.cons_append, lvl]
      rw [lvl_ent r n t]
    · simp only [entL, h, if_false, List.cons_append, lvl]
      rw [lvl_ent r n t]
theorem ent_len (r : Nat → Nat) : ∀ (as : List Value), (lg_sl (as.map (rl r))).length = (entL as).length
  | [] => rfl
  | v :: t => by
    have ih := ent_len r t
    simp only [lg_sl, List.map_cons, List.flatMap_cons, List.length_append] at ih ⊢
    rw [ih, rl_cat]
    by_cases h : v.category = 2
    · simp [entL, h]; omega
    · simp [entL, h]; omega
theorem Mt.of {m : mi} {d mc ms : Nat} {as : List Value} {w : aW} {Q : Option Value → aW → Prop} (hI : MI m) (hlen : (entL as).length ≤ m.2.2.1)
    (h : ∀ X : aX, Cx m X → Rd X d mc ms → Rt X mc ms Q → Rw m X 0 (ent as m.2.2.1) [] w 0 0) : Mt m d mc ms as w Q := by
  intro l V hV
  refine Met.ofW (cc := m.2.1) (maxL := m.2.2.1) (ret := m.2.2.2) hI.1 rfl ?_
  intro p e s mm args below meth c s₁ B hml hv
  obtain ⟨rfl, hH, hK⟩ := hv
  have hts := atoms_spec (ws := wsOf m) B.pre
  have hown : s.vm.findClass m.1.cls = some mm.cls := findClass_of_methodNamed B.named
  have hent := lv_entry (as.map (rl V.2.2.1)) (n := m.2.2.1) (by rw [ent_len]; exact hlen)
  have hk := h (p, l, e, (headSpec (wsOf m) (rmD d mc ms)).room, s, mm, (as.map (rl V.2.2.1)).toArray, below, meth, c, MQ below (aQc V Q) (as.map (rl V.2.2.1)).toArray s mc ms (fr V), V) ⟨hV, B.exec, B.bytes, hml, B.returns, B.notSynchronized, hown, hts, hK, (name_of_methodNamed B.named B.method).1⟩ ⟨Nat.le_refl _, Nat.le_refl _, Nat.le_refl _, Nat.le_refl _⟩ rfl
  rw [lg_entry_eq]
  refine hk s.heap [] _ hH (fun q hq => by cases hq) ?_
  unfold ent
  rw [lvl_ent]
  exact hent
end
