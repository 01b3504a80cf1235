section
-- ===== PART A: goes FIRST, ahead of the names: the tables' words, and 'selects' of the private methods out of them =====
/-- a private method of a class that the tables say can be made, by its rows of tables_1 -/
def lw_okq (q : MethodName × Nat) : Prop := (q.1.cls ≠ "java/lang/invoke/MethodHandle" ∧ q.1.cls ≠ "java/lang/invoke/VarHandle") ∧ Cond.instantiable q.1.cls q.2 ∈ tables_1 ∧ Cond.privateMethod q.1 ∈ tables_1 ∧ Cond.instanceMethod q.1 ∈ tables_1
theorem lw_p0 : lw_okq (⟨"UnimodularTables$Script", "isWhole", "(I)Z"⟩, 5) := ⟨⟨by decide +kernel, by decide +kernel⟩, List.mem_of_getElem? (i := 244) (by decide +kernel), List.mem_of_getElem? (i := 377) (by decide +kernel), List.mem_of_getElem? (i := 378) (by decide +kernel)⟩
theorem lw_p1 : lw_okq (⟨"UnimodularTables$Script", "begins", "(I)Z"⟩, 5) := ⟨⟨by decide +kernel, by decide +kernel⟩, List.mem_of_getElem? (i := 244) (by decide +kernel), List.mem_of_getElem? (i := 383) (by decide +kernel), List.mem_of_getElem? (i := 384) (by decide +kernel)⟩
theorem lw_p2 : lw_okq (⟨"UnimodularTables$Script", "goesOn", "(II)Z"⟩, 5) := ⟨⟨by decide +kernel, by decide +kernel⟩, List.mem_of_getElem? (i := 244) (by decide +kernel), List.mem_of_getElem? (i := 475) (by decide +kernel), List.mem_of_getElem? (i := 476) (by decide +kernel)⟩
theorem lw_p3 : lw_okq (⟨"UnimodularTables", "tableFromTape", "()I"⟩, 19) := ⟨⟨by decide +kernel, by decide +kernel⟩, List.mem_of_getElem? (i := 26) (by decide +kernel), List.mem_of_getElem? (i := 485) (by decide +kernel), List.mem_of_getElem? (i := 486) (by decide +kernel)⟩
theorem lw_p4 : lw_okq (⟨"UnimodularTables", "forget", "()V"⟩, 19) := ⟨⟨by decide +kernel, by decide +kernel⟩, List.mem_of_getElem? (i := 26) (by decide +kernel), List.mem_of_getElem? (i := 500) (by decide +kernel), List.mem_of_getElem? (i := 501) (by decide +kernel)⟩
theorem lw_p5 : lw_okq (⟨"UnimodularTables", "scriptFromTape", "()I"⟩, 19) := ⟨⟨by decide +kernel, by decide +kernel⟩, List.mem_of_getElem? (i := 26) (by decide +kernel), List.mem_of_getElem? (i := 504) (by decide +kernel), List.mem_of_getElem? (i := 505) (by decide +kernel)⟩
theorem lw_p6 : lw_okq (⟨"UnimodularTables", "attempt", "(IIII)I"⟩, 19) := ⟨⟨by decide +kernel, by decide +kernel⟩, List.mem_of_getElem? (i := 26) (by decide +kernel), List.mem_of_getElem? (i := 516) (by decide +kernel), List.mem_of_getElem? (i := 517) (by decide +kernel)⟩
theorem lw_p7 : lw_okq (⟨"UnimodularTables$Table", "negateRow", "(I)I"⟩, 3) := ⟨⟨by decide +kernel, by decide +kernel⟩, List.mem_of_getElem? (i := 51) (by decide +kernel), List.mem_of_getElem? (i := 528) (by decide +kernel), List.mem_of_getElem? (i := 529) (by decide +kernel)⟩
theorem lw_p8 : lw_okq (⟨"UnimodularTables$Table", "onColumns", "(III)I"⟩, 3) := ⟨⟨by decide +kernel, by decide +kernel⟩, List.mem_of_getElem? (i := 51) (by decide +kernel), List.mem_of_getElem? (i := 537) (by decide +kernel), List.mem_of_getElem? (i := 538) (by decide +kernel)⟩
theorem lw_p9 : lw_okq (⟨"UnimodularTables$Table", "changeRows", "(II)I"⟩, 3) := ⟨⟨by decide +kernel, by decide +kernel⟩, List.mem_of_getElem? (i := 51) (by decide +kernel), List.mem_of_getElem? (i := 545) (by decide +kernel), List.mem_of_getElem? (i := 546) (by decide +kernel)⟩
theorem lw_p10 : lw_okq (⟨"UnimodularTables$Table", "dropRow", "(I)I"⟩, 3) := ⟨⟨by decide +kernel, by decide +kernel⟩, List.mem_of_getElem? (i := 51) (by decide +kernel), List.mem_of_getElem? (i := 549) (by decide +kernel), List.mem_of_getElem? (i := 550) (by decide +kernel)⟩
theorem lw_p11 : lw_okq (⟨"UnimodularTables$Table", "turn", "(II)I"⟩, 3) := ⟨⟨by decide +kernel, by decide +kernel⟩, List.mem_of_getElem? (i := 51) (by decide +kernel), List.mem_of_getElem? (i := 553) (by decide +kernel), List.mem_of_getElem? (i := 554) (by decide +kernel)⟩
theorem lw_p12 : lw_okq (⟨"UnimodularTables$Table", "canTurn", "(II)Z"⟩, 3) := ⟨⟨by decide +kernel, by decide +kernel⟩, List.mem_of_getElem? (i := 51) (by decide +kernel), List.mem_of_getElem? (i := 557) (by decide +kernel), List.mem_of_getElem? (i := 558) (by decide +kernel)⟩
theorem lw_p13 : lw_okq (⟨"UnimodularTables$Table", "set", "(III)I"⟩, 3) := ⟨⟨by decide +kernel, by decide +kernel⟩, List.mem_of_getElem? (i := 51) (by decide +kernel), List.mem_of_getElem? (i := 564) (by decide +kernel), List.mem_of_getElem? (i := 565) (by decide +kernel)⟩
theorem lw_p14 : lw_okq (⟨"UnimodularTables", "settle", "(I)I"⟩, 19) := ⟨⟨by decide +kernel, by decide +kernel⟩, List.mem_of_getElem? (i := 26) (by decide +kernel), List.mem_of_getElem? (i := 568) (by decide +kernel), List.mem_of_getElem? (i := 569) (by decide +kernel)⟩
theorem lw_p15 : lw_okq (⟨"UnimodularTables", "refused", "(I)Z"⟩, 19) := ⟨⟨by decide +kernel, by decide +kernel⟩, List.mem_of_getElem? (i := 26) (by decide +kernel), List.mem_of_getElem? (i := 577) (by decide +kernel), List.mem_of_getElem? (i := 578) (by decide +kernel)⟩
def lw_privs_1 : List (MethodName × Nat) := [(⟨"UnimodularTables$Script", "isWhole", "(I)Z"⟩, 5), (⟨"UnimodularTables$Script", "begins", "(I)Z"⟩, 5), (⟨"UnimodularTables$Script", "goesOn", "(II)Z"⟩, 5), (⟨"UnimodularTables", "tableFromTape", "()I"⟩, 19), (⟨"UnimodularTables", "forget", "()V"⟩, 19), (⟨"UnimodularTables", "scriptFromTape", "()I"⟩, 19), (⟨"UnimodularTables", "attempt", "(IIII)I"⟩, 19), (⟨"UnimodularTables$Table", "negateRow", "(I)I"⟩, 3), (⟨"UnimodularTables$Table", "onColumns", "(III)I"⟩, 3), (⟨"UnimodularTables$Table", "changeRows", "(II)I"⟩, 3), (⟨"UnimodularTables$Table", "dropRow", "(I)I"⟩, 3), (⟨"UnimodularTables$Table", "turn", "(II)I"⟩, 3), (⟨"UnimodularTables$Table", "canTurn", "(II)Z"⟩, 3), (⟨"UnimodularTables$Table", "set", "(III)I"⟩, 3), (⟨"UnimodularTables", "settle", "(I)I"⟩, 19), (⟨"UnimodularTables", "refused", "(I)Z"⟩, 19)]
theorem lw_r1 : ∀ q ∈ lw_privs_1, lw_okq q := List.forall_mem_cons.mpr ⟨lw_p0, List.forall_mem_cons.mpr ⟨lw_p1, List.forall_mem_cons.mpr ⟨lw_p2, List.forall_mem_cons.mpr ⟨lw_p3, List.forall_mem_cons.mpr ⟨lw_p4, List.forall_mem_cons.mpr ⟨lw_p5, List.forall_mem_cons.mpr ⟨lw_p6, List.forall_mem_cons.mpr ⟨lw_p7, List.forall_mem_cons.mpr ⟨lw_p8, List.forall_mem_cons.mpr ⟨lw_p9, List.forall_mem_cons.mpr ⟨lw_p10, List.forall_mem_cons.mpr ⟨lw_p11, List.forall_mem_cons.mpr ⟨lw_p12, List.forall_mem_cons.mpr ⟨lw_p13, List.forall_mem_cons.mpr ⟨lw_p14, List.forall_mem_cons.mpr ⟨lw_p15, fun _ h => absurd h List.not_mem_nil⟩⟩⟩⟩⟩⟩⟩⟩⟩⟩⟩⟩⟩⟩⟩⟩
theorem lw_p16 : lw_okq (⟨"UnimodularTables", "isKept", "(I)Z"⟩, 19) := ⟨⟨by decide +kernel, by decide +kernel⟩, List.mem_of_getElem? (i := 26) (by decide +kernel), List.mem_of_getElem? (i := 596) (by decide +kernel), List.mem_of_getElem? (i := 597) (by decide +kernel)⟩
theorem lw_p17 : lw_okq (⟨"UnimodularTables", "attemptSum", "(III)I"⟩, 19) := ⟨⟨by decide +kernel, by decide +kernel⟩, List.mem_of_getElem? (i := 26) (by decide +kernel), List.mem_of_getElem? (i := 605) (by decide +kernel), List.mem_of_getElem? (i := 606) (by decide +kernel)⟩
theorem lw_p18 : lw_okq (⟨"UnimodularTables", "knownMinors", "()LUnimodularTables$Minors;"⟩, 19) := ⟨⟨by decide +kernel, by decide +kernel⟩, List.mem_of_getElem? (i := 26) (by decide +kernel), List.mem_of_getElem? (i := 646) (by decide +kernel), List.mem_of_getElem? (i := 647) (by decide +kernel)⟩
theorem lw_p19 : lw_okq (⟨"UnimodularTables$Minors", "expanded", "(LUnimodularTables$Table;II)I"⟩, 6) := ⟨⟨by decide +kernel, by decide +kernel⟩, List.mem_of_getElem? (i := 101) (by decide +kernel), List.mem_of_getElem? (i := 655) (by decide +kernel), List.mem_of_getElem? (i := 656) (by decide +kernel)⟩
theorem lw_p20 : lw_okq (⟨"UnimodularTables$Minors", "noteBeyond", "(II)V"⟩, 6) := ⟨⟨by decide +kernel, by decide +kernel⟩, List.mem_of_getElem? (i := 101) (by decide +kernel), List.mem_of_getElem? (i := 668) (by decide +kernel), List.mem_of_getElem? (i := 669) (by decide +kernel)⟩
theorem lw_p21 : lw_okq (⟨"UnimodularTables$Table", "halvesAll", "(II)Z"⟩, 3) := ⟨⟨by decide +kernel, by decide +kernel⟩, List.mem_of_getElem? (i := 51) (by decide +kernel), List.mem_of_getElem? (i := 704) (by decide +kernel), List.mem_of_getElem? (i := 705) (by decide +kernel)⟩
theorem lw_p22 : lw_okq (⟨"UnimodularTables", "hasSide", "(I)Z"⟩, 19) := ⟨⟨by decide +kernel, by decide +kernel⟩, List.mem_of_getElem? (i := 26) (by decide +kernel), List.mem_of_getElem? (i := 717) (by decide +kernel), List.mem_of_getElem? (i := 718) (by decide +kernel)⟩
theorem lw_p23 : lw_okq (⟨"UnimodularTables", "knownTree", "(I)LUnimodularTables$Tree;"⟩, 19) := ⟨⟨by decide +kernel, by decide +kernel⟩, List.mem_of_getElem? (i := 26) (by decide +kernel), List.mem_of_getElem? (i := 721) (by decide +kernel), List.mem_of_getElem? (i := 722) (by decide +kernel)⟩
theorem lw_p24 : lw_okq (⟨"UnimodularTables$Tree", "grow", "(I)Z"⟩, 5) := ⟨⟨by decide +kernel, by decide +kernel⟩, List.mem_of_getElem? (i := 128) (by decide +kernel), List.mem_of_getElem? (i := 731) (by decide +kernel), List.mem_of_getElem? (i := 732) (by decide +kernel)⟩
theorem lw_p25 : lw_okq (⟨"UnimodularTables$Tree", "arcsAt", "(II)I"⟩, 5) := ⟨⟨by decide +kernel, by decide +kernel⟩, List.mem_of_getElem? (i := 128) (by decide +kernel), List.mem_of_getElem? (i := 735) (by decide +kernel), List.mem_of_getElem? (i := 736) (by decide +kernel)⟩
theorem lw_p26 : lw_okq (⟨"UnimodularTables$Tree", "growBy", "(IIII)Z"⟩, 5) := ⟨⟨by decide +kernel, by decide +kernel⟩, List.mem_of_getElem? (i := 128) (by decide +kernel), List.mem_of_getElem? (i := 742) (by decide +kernel), List.mem_of_getElem? (i := 743) (by decide +kernel)⟩
theorem lw_p27 : lw_okq (⟨"UnimodularTables$Tree", "moveEnds", "(III)V"⟩, 5) := ⟨⟨by decide +kernel, by decide +kernel⟩, List.mem_of_getElem? (i := 128) (by decide +kernel), List.mem_of_getElem? (i := 746) (by decide +kernel), List.mem_of_getElem? (i := 747) (by decide +kernel)⟩
theorem lw_p28 : lw_okq (⟨"UnimodularTables$Tree", "areWays", "(I)Z"⟩, 5) := ⟨⟨by decide +kernel, by decide +kernel⟩, List.mem_of_getElem? (i := 128) (by decide +kernel), List.mem_of_getElem? (i := 751) (by decide +kernel), List.mem_of_getElem? (i := 752) (by decide +kernel)⟩
theorem lw_p29 : lw_okq (⟨"UnimodularTables$Tree", "starts", "(II)I"⟩, 5) := ⟨⟨by decide +kernel, by decide +kernel⟩, List.mem_of_getElem? (i := 128) (by decide +kernel), List.mem_of_getElem? (i := 755) (by decide +kernel), List.mem_of_getElem? (i := 756) (by decide +kernel)⟩
theorem lw_p30 : lw_okq (⟨"UnimodularTables$Tree", "leaves", "(II)I"⟩, 5) := ⟨⟨by decide +kernel, by decide +kernel⟩, List.mem_of_getElem? (i := 128) (by decide +kernel), List.mem_of_getElem? (i := 760) (by decide +kernel), List.mem_of_getElem? (i := 761) (by decide +kernel)⟩
theorem lw_p31 : lw_okq (⟨"UnimodularTables$Tree", "reaches", "(II)I"⟩, 5) := ⟨⟨by decide +kernel, by decide +kernel⟩, List.mem_of_getElem? (i := 128) (by decide +kernel), List.mem_of_getElem? (i := 764) (by decide +kernel), List.mem_of_getElem? (i := 765) (by decide +kernel)⟩
def lw_privs_2 : List (MethodName × Nat) := [(⟨"UnimodularTables", "isKept", "(I)Z"⟩, 19), (⟨"UnimodularTables", "attemptSum", "(III)I"⟩, 19), (⟨"UnimodularTables", "knownMinors", "()LUnimodularTables$Minors;"⟩, 19), (⟨"UnimodularTables$Minors", "expanded", "(LUnimodularTables$Table;II)I"⟩, 6), (⟨"UnimodularTables$Minors", "noteBeyond", "(II)V"⟩, 6), (⟨"UnimodularTables$Table", "halvesAll", "(II)Z"⟩, 3), (⟨"UnimodularTables", "hasSide", "(I)Z"⟩, 19), (⟨"UnimodularTables", "knownTree", "(I)LUnimodularTables$Tree;"⟩, 19), (⟨"UnimodularTables$Tree", "grow", "(I)Z"⟩, 5), (⟨"UnimodularTables$Tree", "arcsAt", "(II)I"⟩, 5), (⟨"UnimodularTables$Tree", "growBy", "(IIII)Z"⟩, 5), (⟨"UnimodularTables$Tree", "moveEnds", "(III)V"⟩, 5), (⟨"UnimodularTables$Tree", "areWays", "(I)Z"⟩, 5), (⟨"UnimodularTables$Tree", "starts", "(II)I"⟩, 5), (⟨"UnimodularTables$Tree", "leaves", "(II)I"⟩, 5), (⟨"UnimodularTables$Tree", "reaches", "(II)I"⟩, 5)]
theorem lw_r2 : ∀ q ∈ lw_privs_2, lw_okq q := List.forall_mem_cons.mpr ⟨lw_p16, List.forall_mem_cons.mpr ⟨lw_p17, List.forall_mem_cons.mpr ⟨lw_p18, List.forall_mem_cons.mpr ⟨lw_p19, List.forall_mem_cons.mpr ⟨lw_p20, List.forall_mem_cons.mpr ⟨lw_p21, List.forall_mem_cons.mpr ⟨lw_p22, List.forall_mem_cons.mpr ⟨lw_p23, List.forall_mem_cons.mpr ⟨lw_p24, List.forall_mem_cons.mpr ⟨lw_p25, List.forall_mem_cons.mpr ⟨lw_p26, List.forall_mem_cons.mpr ⟨lw_p27, List.forall_mem_cons.mpr ⟨lw_p28, List.forall_mem_cons.mpr ⟨lw_p29, List.forall_mem_cons.mpr ⟨lw_p30, List.forall_mem_cons.mpr ⟨lw_p31, fun _ h => absurd h List.not_mem_nil⟩⟩⟩⟩⟩⟩⟩⟩⟩⟩⟩⟩⟩⟩⟩⟩
theorem lw_p32 : lw_okq (⟨"UnimodularTables$Tree", "arcFrom", "(II)I"⟩, 5) := ⟨⟨by decide +kernel, by decide +kernel⟩, List.mem_of_getElem? (i := 128) (by decide +kernel), List.mem_of_getElem? (i := 785) (by decide +kernel), List.mem_of_getElem? (i := 786) (by decide +kernel)⟩
theorem lw_p33 : lw_okq (⟨"UnimodularTables", "knownSigns", "()LUnimodularTables$Table;"⟩, 19) := ⟨⟨by decide +kernel, by decide +kernel⟩, List.mem_of_getElem? (i := 26) (by decide +kernel), List.mem_of_getElem? (i := 793) (by decide +kernel), List.mem_of_getElem? (i := 794) (by decide +kernel)⟩
theorem lw_p34 : lw_okq (⟨"UnimodularTables$Signing", "signForest", "(LUnimodularTables$Table;)V"⟩, 8) := ⟨⟨by decide +kernel, by decide +kernel⟩, List.mem_of_getElem? (i := 153) (by decide +kernel), List.mem_of_getElem? (i := 802) (by decide +kernel), List.mem_of_getElem? (i := 803) (by decide +kernel)⟩
theorem lw_p35 : lw_okq (⟨"UnimodularTables$Signing", "unite", "(II)V"⟩, 8) := ⟨⟨by decide +kernel, by decide +kernel⟩, List.mem_of_getElem? (i := 153) (by decide +kernel), List.mem_of_getElem? (i := 808) (by decide +kernel), List.mem_of_getElem? (i := 809) (by decide +kernel)⟩
theorem lw_p36 : lw_okq (⟨"UnimodularTables$Signing", "findNext", "(LUnimodularTables$Table;)Z"⟩, 8) := ⟨⟨by decide +kernel, by decide +kernel⟩, List.mem_of_getElem? (i := 153) (by decide +kernel), List.mem_of_getElem? (i := 812) (by decide +kernel), List.mem_of_getElem? (i := 813) (by decide +kernel)⟩
theorem lw_p37 : lw_okq (⟨"UnimodularTables$Signing", "measureFrom", "(I)V"⟩, 8) := ⟨⟨by decide +kernel, by decide +kernel⟩, List.mem_of_getElem? (i := 153) (by decide +kernel), List.mem_of_getElem? (i := 817) (by decide +kernel), List.mem_of_getElem? (i := 818) (by decide +kernel)⟩
theorem lw_p38 : lw_okq (⟨"UnimodularTables$Signing", "reachRows", "(I)V"⟩, 8) := ⟨⟨by decide +kernel, by decide +kernel⟩, List.mem_of_getElem? (i := 153) (by decide +kernel), List.mem_of_getElem? (i := 821) (by decide +kernel), List.mem_of_getElem? (i := 822) (by decide +kernel)⟩
theorem lw_p39 : lw_okq (⟨"UnimodularTables$Signing", "columnToldAt", "(II)I"⟩, 8) := ⟨⟨by decide +kernel, by decide +kernel⟩, List.mem_of_getElem? (i := 153) (by decide +kernel), List.mem_of_getElem? (i := 825) (by decide +kernel), List.mem_of_getElem? (i := 826) (by decide +kernel)⟩
theorem lw_p40 : lw_okq (⟨"UnimodularTables$Signing", "reachColumns", "(I)V"⟩, 8) := ⟨⟨by decide +kernel, by decide +kernel⟩, List.mem_of_getElem? (i := 153) (by decide +kernel), List.mem_of_getElem? (i := 829) (by decide +kernel), List.mem_of_getElem? (i := 830) (by decide +kernel)⟩
theorem lw_p41 : lw_okq (⟨"UnimodularTables$Signing", "rowToldAt", "(II)I"⟩, 8) := ⟨⟨by decide +kernel, by decide +kernel⟩, List.mem_of_getElem? (i := 153) (by decide +kernel), List.mem_of_getElem? (i := 833) (by decide +kernel), List.mem_of_getElem? (i := 834) (by decide +kernel)⟩
theorem lw_p42 : lw_okq (⟨"UnimodularTables$Signing", "sumOfWay", "(I)I"⟩, 8) := ⟨⟨by decide +kernel, by decide +kernel⟩, List.mem_of_getElem? (i := 153) (by decide +kernel), List.mem_of_getElem? (i := 837) (by decide +kernel), List.mem_of_getElem? (i := 838) (by decide +kernel)⟩
theorem lw_p43 : lw_okq (⟨"UnimodularTables", "isTotal", "(LUnimodularTables$Table;)Z"⟩, 19) := ⟨⟨by decide +kernel, by decide +kernel⟩, List.mem_of_getElem? (i := 26) (by decide +kernel), List.mem_of_getElem? (i := 845) (by decide +kernel), List.mem_of_getElem? (i := 846) (by decide +kernel)⟩
theorem lw_p44 : lw_okq (⟨"UnimodularTables$Table", "columnIs", "(LUnimodularTables$Table;III)Z"⟩, 3) := ⟨⟨by decide +kernel, by decide +kernel⟩, List.mem_of_getElem? (i := 51) (by decide +kernel), List.mem_of_getElem? (i := 858) (by decide +kernel), List.mem_of_getElem? (i := 859) (by decide +kernel)⟩
theorem lw_p45 : lw_okq (⟨"UnimodularTables$Pattern", "write", "(Ljava/lang/String;)V"⟩, 3) := ⟨⟨by decide +kernel, by decide +kernel⟩, List.mem_of_getElem? (i := 216) (by decide +kernel), List.mem_of_getElem? (i := 871) (by decide +kernel), List.mem_of_getElem? (i := 872) (by decide +kernel)⟩
theorem lw_p46 : lw_okq (⟨"UnimodularTables$Pattern", "setOrder", "(I)V"⟩, 3) := ⟨⟨by decide +kernel, by decide +kernel⟩, List.mem_of_getElem? (i := 216) (by decide +kernel), List.mem_of_getElem? (i := 904) (by decide +kernel), List.mem_of_getElem? (i := 905) (by decide +kernel)⟩
theorem lw_p47 : lw_okq (⟨"UnimodularTables$Pattern", "moveColumns", "(LUnimodularTables$Table;)Z"⟩, 3) := ⟨⟨by decide +kernel, by decide +kernel⟩, List.mem_of_getElem? (i := 216) (by decide +kernel), List.mem_of_getElem? (i := 912) (by decide +kernel), List.mem_of_getElem? (i := 913) (by decide +kernel)⟩
def lw_privs_3 : List (MethodName × Nat) := [(⟨"UnimodularTables$Tree", "arcFrom", "(II)I"⟩, 5), (⟨"UnimodularTables", "knownSigns", "()LUnimodularTables$Table;"⟩, 19), (⟨"UnimodularTables$Signing", "signForest", "(LUnimodularTables$Table;)V"⟩, 8), (⟨"UnimodularTables$Signing", "unite", "(II)V"⟩, 8), (⟨"UnimodularTables$Signing", "findNext", "(LUnimodularTables$Table;)Z"⟩, 8), (⟨"UnimodularTables$Signing", "measureFrom", "(I)V"⟩, 8), (⟨"UnimodularTables$Signing", "reachRows", "(I)V"⟩, 8), (⟨"UnimodularTables$Signing", "columnToldAt", "(II)I"⟩, 8), (⟨"UnimodularTables$Signing", "reachColumns", "(I)V"⟩, 8), (⟨"UnimodularTables$Signing", "rowToldAt", "(II)I"⟩, 8), (⟨"UnimodularTables$Signing", "sumOfWay", "(I)I"⟩, 8), (⟨"UnimodularTables", "isTotal", "(LUnimodularTables$Table;)Z"⟩, 19), (⟨"UnimodularTables$Table", "columnIs", "(LUnimodularTables$Table;III)Z"⟩, 3), (⟨"UnimodularTables$Pattern", "write", "(Ljava/lang/String;)V"⟩, 3), (⟨"UnimodularTables$Pattern", "setOrder", "(I)V"⟩, 3), (⟨"UnimodularTables$Pattern", "moveColumns", "(LUnimodularTables$Table;)Z"⟩, 3)]
theorem lw_r3 : ∀ q ∈ lw_privs_3, lw_okq q := List.forall_mem_cons.mpr ⟨lw_p32, List.forall_mem_cons.mpr ⟨lw_p33, List.forall_mem_cons.mpr ⟨lw_p34, List.forall_mem_cons.mpr ⟨lw_p35, List.forall_mem_cons.mpr ⟨lw_p36, List.forall_mem_cons.mpr ⟨lw_p37, List.forall_mem_cons.mpr ⟨lw_p38, List.forall_mem_cons.mpr ⟨lw_p39, List.forall_mem_cons.mpr ⟨lw_p40, List.forall_mem_cons.mpr ⟨lw_p41, List.forall_mem_cons.mpr ⟨lw_p42, List.forall_mem_cons.mpr ⟨lw_p43, List.forall_mem_cons.mpr ⟨lw_p44, List.forall_mem_cons.mpr ⟨lw_p45, List.forall_mem_cons.mpr ⟨lw_p46, List.forall_mem_cons.mpr ⟨lw_p47, fun _ h => absurd h List.not_mem_nil⟩⟩⟩⟩⟩⟩⟩⟩⟩⟩⟩⟩⟩⟩⟩⟩
theorem lw_p48 : lw_okq (⟨"UnimodularTables$Pattern", "isAlike", "(LUnimodularTables$Table;II)Z"⟩, 3) := ⟨⟨by decide +kernel, by decide +kernel⟩, List.mem_of_getElem? (i := 216) (by decide +kernel), List.mem_of_getElem? (i := 916) (by decide +kernel), List.mem_of_getElem? (i := 917) (by decide +kernel)⟩
theorem lw_p49 : lw_okq (⟨"UnimodularTables$Shape", "allJoinedTo", "(I)I"⟩, 7) := ⟨⟨by decide +kernel, by decide +kernel⟩, List.mem_of_getElem? (i := 187) (by decide +kernel), List.mem_of_getElem? (i := 937) (by decide +kernel), List.mem_of_getElem? (i := 938) (by decide +kernel)⟩
theorem lw_p50 : lw_okq (⟨"UnimodularTables$Shape", "columnsMetBy", "(I)I"⟩, 7) := ⟨⟨by decide +kernel, by decide +kernel⟩, List.mem_of_getElem? (i := 187) (by decide +kernel), List.mem_of_getElem? (i := 941) (by decide +kernel), List.mem_of_getElem? (i := 942) (by decide +kernel)⟩
theorem lw_p51 : lw_okq (⟨"UnimodularTables$Shape", "rowsMetBy", "(I)I"⟩, 7) := ⟨⟨by decide +kernel, by decide +kernel⟩, List.mem_of_getElem? (i := 187) (by decide +kernel), List.mem_of_getElem? (i := 945) (by decide +kernel), List.mem_of_getElem? (i := 946) (by decide +kernel)⟩
theorem lw_p52 : lw_okq (⟨"UnimodularTables$Shape", "addPart", "(II)V"⟩, 7) := ⟨⟨by decide +kernel, by decide +kernel⟩, List.mem_of_getElem? (i := 187) (by decide +kernel), List.mem_of_getElem? (i := 949) (by decide +kernel), List.mem_of_getElem? (i := 950) (by decide +kernel)⟩
theorem lw_p53 : lw_okq (⟨"UnimodularTables", "firstMend", "()I"⟩, 19) := ⟨⟨by decide +kernel, by decide +kernel⟩, List.mem_of_getElem? (i := 26) (by decide +kernel), List.mem_of_getElem? (i := 978) (by decide +kernel), List.mem_of_getElem? (i := 979) (by decide +kernel)⟩
theorem lw_p54 : lw_okq (⟨"UnimodularTables$Minors", "cofactor", "(IIII)I"⟩, 6) := ⟨⟨by decide +kernel, by decide +kernel⟩, List.mem_of_getElem? (i := 101) (by decide +kernel), List.mem_of_getElem? (i := 986) (by decide +kernel), List.mem_of_getElem? (i := 987) (by decide +kernel)⟩
theorem lw_p55 : lw_okq (⟨"UnimodularTables$Shape", "areApart", "(I)Z"⟩, 7) := ⟨⟨by decide +kernel, by decide +kernel⟩, List.mem_of_getElem? (i := 187) (by decide +kernel), List.mem_of_getElem? (i := 1007) (by decide +kernel), List.mem_of_getElem? (i := 1008) (by decide +kernel)⟩
theorem lw_p56 : lw_okq (⟨"UnimodularTables$Shape", "roundBy", "(II)I"⟩, 7) := ⟨⟨by decide +kernel, by decide +kernel⟩, List.mem_of_getElem? (i := 187) (by decide +kernel), List.mem_of_getElem? (i := 1027) (by decide +kernel), List.mem_of_getElem? (i := 1028) (by decide +kernel)⟩
theorem lw_p57 : lw_okq (⟨"UnimodularTables", "isScript", "(I)Z"⟩, 19) := ⟨⟨by decide +kernel, by decide +kernel⟩, List.mem_of_getElem? (i := 26) (by decide +kernel), List.mem_of_getElem? (i := 1035) (by decide +kernel), List.mem_of_getElem? (i := 1036) (by decide +kernel)⟩
theorem lw_p58 : lw_okq (⟨"UnimodularTables", "attemptDraw", "()I"⟩, 19) := ⟨⟨by decide +kernel, by decide +kernel⟩, List.mem_of_getElem? (i := 26) (by decide +kernel), List.mem_of_getElem? (i := 1055) (by decide +kernel), List.mem_of_getElem? (i := 1056) (by decide +kernel)⟩
theorem lw_p59 : lw_okq (⟨"java/lang/Throwable", "fillInStackTrace", "(I)Ljava/lang/Throwable;"⟩, 6) := ⟨⟨by decide +kernel, by decide +kernel⟩, List.mem_of_getElem? (i := 1126) (by decide +kernel), List.mem_of_getElem? (i := 1124) (by decide +kernel), List.mem_of_getElem? (i := 1125) (by decide +kernel)⟩
theorem lw_p60 : lw_okq (⟨"UnimodularTablesModel", "brings", "(I)V"⟩, 35) := ⟨⟨by decide +kernel, by decide +kernel⟩, List.mem_of_getElem? (i := 1151) (by decide +kernel), List.mem_of_getElem? (i := 1274) (by decide +kernel), List.mem_of_getElem? (i := 1275) (by decide +kernel)⟩
theorem lw_p61 : lw_okq (⟨"UnimodularTablesModel", "readTable", "()V"⟩, 35) := ⟨⟨by decide +kernel, by decide +kernel⟩, List.mem_of_getElem? (i := 1151) (by decide +kernel), List.mem_of_getElem? (i := 1289) (by decide +kernel), List.mem_of_getElem? (i := 1290) (by decide +kernel)⟩
theorem lw_p62 : lw_okq (⟨"UnimodularTablesModel", "readRow", "()V"⟩, 35) := ⟨⟨by decide +kernel, by decide +kernel⟩, List.mem_of_getElem? (i := 1151) (by decide +kernel), List.mem_of_getElem? (i := 1293) (by decide +kernel), List.mem_of_getElem? (i := 1294) (by decide +kernel)⟩
theorem lw_p63 : lw_okq (⟨"UnimodularTablesModel", "look", "()I"⟩, 35) := ⟨⟨by decide +kernel, by decide +kernel⟩, List.mem_of_getElem? (i := 1151) (by decide +kernel), List.mem_of_getElem? (i := 1298) (by decide +kernel), List.mem_of_getElem? (i := 1299) (by decide +kernel)⟩
def lw_privs_4 : List (MethodName × Nat) := [(⟨"UnimodularTables$Pattern", "isAlike", "(LUnimodularTables$Table;II)Z"⟩, 3), (⟨"UnimodularTables$Shape", "allJoinedTo", "(I)I"⟩, 7), (⟨"UnimodularTables$Shape", "columnsMetBy", "(I)I"⟩, 7), (⟨"UnimodularTables$Shape", "rowsMetBy", "(I)I"⟩, 7), (⟨"UnimodularTables$Shape", "addPart", "(II)V"⟩, 7), (⟨"UnimodularTables", "firstMend", "()I"⟩, 19), (⟨"UnimodularTables$Minors", "cofactor", "(IIII)I"⟩, 6), (⟨"UnimodularTables$Shape", "areApart", "(I)Z"⟩, 7), (⟨"UnimodularTables$Shape", "roundBy", "(II)I"⟩, 7), (⟨"UnimodularTables", "isScript", "(I)Z"⟩, 19), (⟨"UnimodularTables", "attemptDraw", "()I"⟩, 19), (⟨"java/lang/Throwable", "fillInStackTrace", "(I)Ljava/lang/Throwable;"⟩, 6), (⟨"UnimodularTablesModel", "brings", "(I)V"⟩, 35), (⟨"UnimodularTablesModel", "readTable", "()V"⟩, 35), (⟨"UnimodularTablesModel", "readRow", "()V"⟩, 35), (⟨"UnimodularTablesModel", "look", "()I"⟩, 35)]
theorem lw_r4 : ∀ q ∈ lw_privs_4, lw_okq q := List.forall_mem_cons.mpr ⟨lw_p48, List.forall_mem_cons.mpr ⟨lw_p49, List.forall_mem_cons.mpr ⟨lw_p50, List.forall_mem_cons.mpr ⟨lw_p51, List.forall_mem_cons.mpr ⟨lw_p52, List.forall_mem_cons.mpr ⟨lw_p53, List.forall_mem_cons.mpr ⟨lw_p54, List.forall_mem_cons.mpr ⟨lw_p55, List.forall_mem_cons.mpr ⟨lw_p56, List.forall_mem_cons.mpr ⟨lw_p57, List.forall_mem_cons.mpr ⟨lw_p58, List.forall_mem_cons.mpr ⟨lw_p59, List.forall_mem_cons.mpr ⟨lw_p60, List.forall_mem_cons.mpr ⟨lw_p61, List.forall_mem_cons.mpr ⟨lw_p62, List.forall_mem_cons.mpr ⟨lw_p63, fun _ h => absurd h List.not_mem_nil⟩⟩⟩⟩⟩⟩⟩⟩⟩⟩⟩⟩⟩⟩⟩⟩
theorem lw_p64 : lw_okq (⟨"UnimodularTablesModel", "here", "()I"⟩, 35) := ⟨⟨by decide +kernel, by decide +kernel⟩, List.mem_of_getElem? (i := 1151) (by decide +kernel), List.mem_of_getElem? (i := 1302) (by decide +kernel), List.mem_of_getElem? (i := 1303) (by decide +kernel)⟩
theorem lw_p65 : lw_okq (⟨"UnimodularTablesModel", "fails", "()V"⟩, 35) := ⟨⟨by decide +kernel, by decide +kernel⟩, List.mem_of_getElem? (i := 1151) (by decide +kernel), List.mem_of_getElem? (i := 1311) (by decide +kernel), List.mem_of_getElem? (i := 1312) (by decide +kernel)⟩
theorem lw_p66 : lw_okq (⟨"UnimodularTablesModel", "readPlan", "()V"⟩, 35) := ⟨⟨by decide +kernel, by decide +kernel⟩, List.mem_of_getElem? (i := 1151) (by decide +kernel), List.mem_of_getElem? (i := 1315) (by decide +kernel), List.mem_of_getElem? (i := 1316) (by decide +kernel)⟩
theorem lw_p67 : lw_okq (⟨"UnimodularTablesModel", "readStep", "(I)V"⟩, 35) := ⟨⟨by decide +kernel, by decide +kernel⟩, List.mem_of_getElem? (i := 1151) (by decide +kernel), List.mem_of_getElem? (i := 1319) (by decide +kernel), List.mem_of_getElem? (i := 1320) (by decide +kernel)⟩
theorem lw_p68 : lw_okq (⟨"UnimodularTablesModel", "digit", "()I"⟩, 35) := ⟨⟨by decide +kernel, by decide +kernel⟩, List.mem_of_getElem? (i := 1151) (by decide +kernel), List.mem_of_getElem? (i := 1325) (by decide +kernel), List.mem_of_getElem? (i := 1326) (by decide +kernel)⟩
theorem lw_p69 : lw_okq (⟨"UnimodularTablesModel", "isCell", "([III)Z"⟩, 35) := ⟨⟨by decide +kernel, by decide +kernel⟩, List.mem_of_getElem? (i := 1151) (by decide +kernel), List.mem_of_getElem? (i := 1338) (by decide +kernel), List.mem_of_getElem? (i := 1339) (by decide +kernel)⟩
theorem lw_p70 : lw_okq (⟨"UnimodularTablesModel", "refused", "(I)I"⟩, 35) := ⟨⟨by decide +kernel, by decide +kernel⟩, List.mem_of_getElem? (i := 1151) (by decide +kernel), List.mem_of_getElem? (i := 1347) (by decide +kernel), List.mem_of_getElem? (i := 1348) (by decide +kernel)⟩
theorem lw_p71 : lw_okq (⟨"UnimodularTablesModel", "remember", "()V"⟩, 35) := ⟨⟨by decide +kernel, by decide +kernel⟩, List.mem_of_getElem? (i := 1151) (by decide +kernel), List.mem_of_getElem? (i := 1351) (by decide +kernel), List.mem_of_getElem? (i := 1352) (by decide +kernel)⟩
theorem lw_p72 : lw_okq (⟨"UnimodularTablesModel", "stops", "([IIII)I"⟩, 35) := ⟨⟨by decide +kernel, by decide +kernel⟩, List.mem_of_getElem? (i := 1151) (by decide +kernel), List.mem_of_getElem? (i := 1359) (by decide +kernel), List.mem_of_getElem? (i := 1360) (by decide +kernel)⟩
theorem lw_p73 : lw_okq (⟨"UnimodularTablesModel", "canTurn", "([III)Z"⟩, 35) := ⟨⟨by decide +kernel, by decide +kernel⟩, List.mem_of_getElem? (i := 1151) (by decide +kernel), List.mem_of_getElem? (i := 1363) (by decide +kernel), List.mem_of_getElem? (i := 1364) (by decide +kernel)⟩
theorem lw_p74 : lw_okq (⟨"UnimodularTablesModel", "does", "([IIII)V"⟩, 35) := ⟨⟨by decide +kernel, by decide +kernel⟩, List.mem_of_getElem? (i := 1151) (by decide +kernel), List.mem_of_getElem? (i := 1370) (by decide +kernel), List.mem_of_getElem? (i := 1371) (by decide +kernel)⟩
theorem lw_p75 : lw_okq (⟨"UnimodularTablesModel", "isKept", "(I)Z"⟩, 35) := ⟨⟨by decide +kernel, by decide +kernel⟩, List.mem_of_getElem? (i := 1151) (by decide +kernel), List.mem_of_getElem? (i := 1385) (by decide +kernel), List.mem_of_getElem? (i := 1386) (by decide +kernel)⟩
theorem lw_p76 : lw_okq (⟨"UnimodularTablesModel", "keptAt", "(III)I"⟩, 35) := ⟨⟨by decide +kernel, by decide +kernel⟩, List.mem_of_getElem? (i := 1151) (by decide +kernel), List.mem_of_getElem? (i := 1389) (by decide +kernel), List.mem_of_getElem? (i := 1390) (by decide +kernel)⟩
theorem lw_p77 : lw_okq (⟨"UnimodularTablesModel", "isSquare", "([III)Z"⟩, 35) := ⟨⟨by decide +kernel, by decide +kernel⟩, List.mem_of_getElem? (i := 1151) (by decide +kernel), List.mem_of_getElem? (i := 1405) (by decide +kernel), List.mem_of_getElem? (i := 1406) (by decide +kernel)⟩
theorem lw_p78 : lw_okq (⟨"UnimodularTablesModel", "laysDets", "([I)V"⟩, 35) := ⟨⟨by decide +kernel, by decide +kernel⟩, List.mem_of_getElem? (i := 1151) (by decide +kernel), List.mem_of_getElem? (i := 1412) (by decide +kernel), List.mem_of_getElem? (i := 1413) (by decide +kernel)⟩
theorem lw_p79 : lw_okq (⟨"UnimodularTablesModel", "isTotal", "([I)Z"⟩, 35) := ⟨⟨by decide +kernel, by decide +kernel⟩, List.mem_of_getElem? (i := 1151) (by decide +kernel), List.mem_of_getElem? (i := 1433) (by decide +kernel), List.mem_of_getElem? (i := 1434) (by decide +kernel)⟩
def lw_privs_5 : List (MethodName × Nat) := [(⟨"UnimodularTablesModel", "here", "()I"⟩, 35), (⟨"UnimodularTablesModel", "fails", "()V"⟩, 35), (⟨"UnimodularTablesModel", "readPlan", "()V"⟩, 35), (⟨"UnimodularTablesModel", "readStep", "(I)V"⟩, 35), (⟨"UnimodularTablesModel", "digit", "()I"⟩, 35), (⟨"UnimodularTablesModel", "isCell", "([III)Z"⟩, 35), (⟨"UnimodularTablesModel", "refused", "(I)I"⟩, 35), (⟨"UnimodularTablesModel", "remember", "()V"⟩, 35), (⟨"UnimodularTablesModel", "stops", "([IIII)I"⟩, 35), (⟨"UnimodularTablesModel", "canTurn", "([III)Z"⟩, 35), (⟨"UnimodularTablesModel", "does", "([IIII)V"⟩, 35), (⟨"UnimodularTablesModel", "isKept", "(I)Z"⟩, 35), (⟨"UnimodularTablesModel", "keptAt", "(III)I"⟩, 35), (⟨"UnimodularTablesModel", "isSquare", "([III)Z"⟩, 35), (⟨"UnimodularTablesModel", "laysDets", "([I)V"⟩, 35), (⟨"UnimodularTablesModel", "isTotal", "([I)Z"⟩, 35)]
theorem lw_r5 : ∀ q ∈ lw_privs_5, lw_okq q := List.forall_mem_cons.mpr ⟨lw_p64, List.forall_mem_cons.mpr ⟨lw_p65, List.forall_mem_cons.mpr ⟨lw_p66, List.forall_mem_cons.mpr ⟨lw_p67, List.forall_mem_cons.mpr ⟨lw_p68, List.forall_mem_cons.mpr ⟨lw_p69, List.forall_mem_cons.mpr ⟨lw_p70, List.forall_mem_cons.mpr ⟨lw_p71, List.forall_mem_cons.mpr ⟨lw_p72, List.forall_mem_cons.mpr ⟨lw_p73, List.forall_mem_cons.mpr ⟨lw_p74, List.forall_mem_cons.mpr ⟨lw_p75, List.forall_mem_cons.mpr ⟨lw_p76, List.forall_mem_cons.mpr ⟨lw_p77, List.forall_mem_cons.mpr ⟨lw_p78, List.forall_mem_cons.mpr ⟨lw_p79, fun _ h => absurd h List.not_mem_nil⟩⟩⟩⟩⟩⟩⟩⟩⟩⟩⟩⟩⟩⟩⟩⟩
theorem lw_p80 : lw_okq (⟨"UnimodularTablesModel", "halfOf", "(I)I"⟩, 35) := ⟨⟨by decide +kernel, by decide +kernel⟩, List.mem_of_getElem? (i := 1151) (by decide +kernel), List.mem_of_getElem? (i := 1446) (by decide +kernel), List.mem_of_getElem? (i := 1447) (by decide +kernel)⟩
theorem lw_p81 : lw_okq (⟨"UnimodularTablesModel", "isHalf", "(II)Z"⟩, 35) := ⟨⟨by decide +kernel, by decide +kernel⟩, List.mem_of_getElem? (i := 1151) (by decide +kernel), List.mem_of_getElem? (i := 1450) (by decide +kernel), List.mem_of_getElem? (i := 1451) (by decide +kernel)⟩
theorem lw_p82 : lw_okq (⟨"UnimodularTablesModel", "hasTree", "(I)Z"⟩, 35) := ⟨⟨by decide +kernel, by decide +kernel⟩, List.mem_of_getElem? (i := 1151) (by decide +kernel), List.mem_of_getElem? (i := 1462) (by decide +kernel), List.mem_of_getElem? (i := 1463) (by decide +kernel)⟩
theorem lw_p83 : lw_okq (⟨"UnimodularTablesModel", "laysSide", "(I)V"⟩, 35) := ⟨⟨by decide +kernel, by decide +kernel⟩, List.mem_of_getElem? (i := 1151) (by decide +kernel), List.mem_of_getElem? (i := 1466) (by decide +kernel), List.mem_of_getElem? (i := 1467) (by decide +kernel)⟩
theorem lw_p84 : lw_okq (⟨"UnimodularTablesModel", "grows", "([III)Z"⟩, 35) := ⟨⟨by decide +kernel, by decide +kernel⟩, List.mem_of_getElem? (i := 1151) (by decide +kernel), List.mem_of_getElem? (i := 1470) (by decide +kernel), List.mem_of_getElem? (i := 1471) (by decide +kernel)⟩
theorem lw_p85 : lw_okq (⟨"UnimodularTablesModel", "endsAt", "(III)I"⟩, 35) := ⟨⟨by decide +kernel, by decide +kernel⟩, List.mem_of_getElem? (i := 1151) (by decide +kernel), List.mem_of_getElem? (i := 1474) (by decide +kernel), List.mem_of_getElem? (i := 1475) (by decide +kernel)⟩
theorem lw_p86 : lw_okq (⟨"UnimodularTablesModel", "bends", "(IIII)V"⟩, 35) := ⟨⟨by decide +kernel, by decide +kernel⟩, List.mem_of_getElem? (i := 1151) (by decide +kernel), List.mem_of_getElem? (i := 1478) (by decide +kernel), List.mem_of_getElem? (i := 1479) (by decide +kernel)⟩
theorem lw_p87 : lw_okq (⟨"UnimodularTablesModel", "areWays", "([III)Z"⟩, 35) := ⟨⟨by decide +kernel, by decide +kernel⟩, List.mem_of_getElem? (i := 1151) (by decide +kernel), List.mem_of_getElem? (i := 1482) (by decide +kernel), List.mem_of_getElem? (i := 1483) (by decide +kernel)⟩
theorem lw_p88 : lw_okq (⟨"UnimodularTablesModel", "isWay", "([IIII)Z"⟩, 35) := ⟨⟨by decide +kernel, by decide +kernel⟩, List.mem_of_getElem? (i := 1151) (by decide +kernel), List.mem_of_getElem? (i := 1486) (by decide +kernel), List.mem_of_getElem? (i := 1487) (by decide +kernel)⟩
theorem lw_p89 : lw_okq (⟨"UnimodularTablesModel", "headOf", "([IIII)I"⟩, 35) := ⟨⟨by decide +kernel, by decide +kernel⟩, List.mem_of_getElem? (i := 1151) (by decide +kernel), List.mem_of_getElem? (i := 1490) (by decide +kernel), List.mem_of_getElem? (i := 1491) (by decide +kernel)⟩
theorem lw_p90 : lw_okq (⟨"UnimodularTablesModel", "tailOf", "([IIII)I"⟩, 35) := ⟨⟨by decide +kernel, by decide +kernel⟩, List.mem_of_getElem? (i := 1151) (by decide +kernel), List.mem_of_getElem? (i := 1494) (by decide +kernel), List.mem_of_getElem? (i := 1495) (by decide +kernel)⟩
theorem lw_p91 : lw_okq (⟨"UnimodularTablesModel", "laysSigns", "()V"⟩, 35) := ⟨⟨by decide +kernel, by decide +kernel⟩, List.mem_of_getElem? (i := 1151) (by decide +kernel), List.mem_of_getElem? (i := 1510) (by decide +kernel), List.mem_of_getElem? (i := 1511) (by decide +kernel)⟩
theorem lw_p92 : lw_okq (⟨"UnimodularTablesModel", "laysSteps", "(I)V"⟩, 35) := ⟨⟨by decide +kernel, by decide +kernel⟩, List.mem_of_getElem? (i := 1151) (by decide +kernel), List.mem_of_getElem? (i := 1514) (by decide +kernel), List.mem_of_getElem? (i := 1515) (by decide +kernel)⟩
theorem lw_p93 : lw_okq (⟨"UnimodularTablesModel", "areTold", "(II)Z"⟩, 35) := ⟨⟨by decide +kernel, by decide +kernel⟩, List.mem_of_getElem? (i := 1151) (by decide +kernel), List.mem_of_getElem? (i := 1518) (by decide +kernel), List.mem_of_getElem? (i := 1519) (by decide +kernel)⟩
theorem lw_p94 : lw_okq (⟨"UnimodularTablesModel", "isTold", "(II)Z"⟩, 35) := ⟨⟨by decide +kernel, by decide +kernel⟩, List.mem_of_getElem? (i := 1151) (by decide +kernel), List.mem_of_getElem? (i := 1522) (by decide +kernel), List.mem_of_getElem? (i := 1523) (by decide +kernel)⟩
theorem lw_p95 : lw_okq (⟨"UnimodularTablesModel", "signBetween", "(II)I"⟩, 35) := ⟨⟨by decide +kernel, by decide +kernel⟩, List.mem_of_getElem? (i := 1151) (by decide +kernel), List.mem_of_getElem? (i := 1526) (by decide +kernel), List.mem_of_getElem? (i := 1527) (by decide +kernel)⟩
def lw_privs_6 : List (MethodName × Nat) := [(⟨"UnimodularTablesModel", "halfOf", "(I)I"⟩, 35), (⟨"UnimodularTablesModel", "isHalf", "(II)Z"⟩, 35), (⟨"UnimodularTablesModel", "hasTree", "(I)Z"⟩, 35), (⟨"UnimodularTablesModel", "laysSide", "(I)V"⟩, 35), (⟨"UnimodularTablesModel", "grows", "([III)Z"⟩, 35), (⟨"UnimodularTablesModel", "endsAt", "(III)I"⟩, 35), (⟨"UnimodularTablesModel", "bends", "(IIII)V"⟩, 35), (⟨"UnimodularTablesModel", "areWays", "([III)Z"⟩, 35), (⟨"UnimodularTablesModel", "isWay", "([IIII)Z"⟩, 35), (⟨"UnimodularTablesModel", "headOf", "([IIII)I"⟩, 35), (⟨"UnimodularTablesModel", "tailOf", "([IIII)I"⟩, 35), (⟨"UnimodularTablesModel", "laysSigns", "()V"⟩, 35), (⟨"UnimodularTablesModel", "laysSteps", "(I)V"⟩, 35), (⟨"UnimodularTablesModel", "areTold", "(II)Z"⟩, 35), (⟨"UnimodularTablesModel", "isTold", "(II)Z"⟩, 35), (⟨"UnimodularTablesModel", "signBetween", "(II)I"⟩, 35)]
theorem lw_r6 : ∀ q ∈ lw_privs_6, lw_okq q := List.forall_mem_cons.mpr ⟨lw_p80, List.forall_mem_cons.mpr ⟨lw_p81, List.forall_mem_cons.mpr ⟨lw_p82, List.forall_mem_cons.mpr ⟨lw_p83, List.forall_mem_cons.mpr ⟨lw_p84, List.forall_mem_cons.mpr ⟨lw_p85, List.forall_mem_cons.mpr ⟨lw_p86, List.forall_mem_cons.mpr ⟨lw_p87, List.forall_mem_cons.mpr ⟨lw_p88, List.forall_mem_cons.mpr ⟨lw_p89, List.forall_mem_cons.mpr ⟨lw_p90, List.forall_mem_cons.mpr ⟨lw_p91, List.forall_mem_cons.mpr ⟨lw_p92, List.forall_mem_cons.mpr ⟨lw_p93, List.forall_mem_cons.mpr ⟨lw_p94, List.forall_mem_cons.mpr ⟨lw_p95, fun _ h => absurd h List.not_mem_nil⟩⟩⟩⟩⟩⟩⟩⟩⟩⟩⟩⟩⟩⟩⟩⟩
theorem lw_p96 : lw_okq (⟨"UnimodularTablesModel", "isScaled", "([I[I)Z"⟩, 35) := ⟨⟨by decide +kernel, by decide +kernel⟩, List.mem_of_getElem? (i := 1151) (by decide +kernel), List.mem_of_getElem? (i := 1538) (by decide +kernel), List.mem_of_getElem? (i := 1539) (by decide +kernel)⟩
theorem lw_p97 : lw_okq (⟨"UnimodularTablesModel", "doRows", "(II)Z"⟩, 35) := ⟨⟨by decide +kernel, by decide +kernel⟩, List.mem_of_getElem? (i := 1151) (by decide +kernel), List.mem_of_getElem? (i := 1548) (by decide +kernel), List.mem_of_getElem? (i := 1549) (by decide +kernel)⟩
theorem lw_p98 : lw_okq (⟨"UnimodularTablesModel", "doColumns", "(II)Z"⟩, 35) := ⟨⟨by decide +kernel, by decide +kernel⟩, List.mem_of_getElem? (i := 1151) (by decide +kernel), List.mem_of_getElem? (i := 1552) (by decide +kernel), List.mem_of_getElem? (i := 1553) (by decide +kernel)⟩
theorem lw_p99 : lw_okq (⟨"UnimodularTablesModel", "isLaid", "()Z"⟩, 35) := ⟨⟨by decide +kernel, by decide +kernel⟩, List.mem_of_getElem? (i := 1151) (by decide +kernel), List.mem_of_getElem? (i := 1556) (by decide +kernel), List.mem_of_getElem? (i := 1557) (by decide +kernel)⟩
theorem lw_p100 : lw_okq (⟨"UnimodularTablesModel", "laysParts", "()V"⟩, 35) := ⟨⟨by decide +kernel, by decide +kernel⟩, List.mem_of_getElem? (i := 1151) (by decide +kernel), List.mem_of_getElem? (i := 1564) (by decide +kernel), List.mem_of_getElem? (i := 1565) (by decide +kernel)⟩
theorem lw_p101 : lw_okq (⟨"UnimodularTablesModel", "isThere", "(I)Z"⟩, 35) := ⟨⟨by decide +kernel, by decide +kernel⟩, List.mem_of_getElem? (i := 1151) (by decide +kernel), List.mem_of_getElem? (i := 1569) (by decide +kernel), List.mem_of_getElem? (i := 1570) (by decide +kernel)⟩
theorem lw_p102 : lw_okq (⟨"UnimodularTablesModel", "isTotalWith", "(II)Z"⟩, 35) := ⟨⟨by decide +kernel, by decide +kernel⟩, List.mem_of_getElem? (i := 1151) (by decide +kernel), List.mem_of_getElem? (i := 1585) (by decide +kernel), List.mem_of_getElem? (i := 1586) (by decide +kernel)⟩
theorem lw_p103 : lw_okq (⟨"UnimodularTablesModel", "doPack", "(I)Z"⟩, 35) := ⟨⟨by decide +kernel, by decide +kernel⟩, List.mem_of_getElem? (i := 1151) (by decide +kernel), List.mem_of_getElem? (i := 1601) (by decide +kernel), List.mem_of_getElem? (i := 1602) (by decide +kernel)⟩
theorem lw_p104 : lw_okq (⟨"UnimodularTablesModel", "rowsOf", "(I)I"⟩, 35) := ⟨⟨by decide +kernel, by decide +kernel⟩, List.mem_of_getElem? (i := 1151) (by decide +kernel), List.mem_of_getElem? (i := 1605) (by decide +kernel), List.mem_of_getElem? (i := 1606) (by decide +kernel)⟩
theorem lw_p105 : lw_okq (⟨"UnimodularTablesModel", "doCover", "(I)Z"⟩, 35) := ⟨⟨by decide +kernel, by decide +kernel⟩, List.mem_of_getElem? (i := 1151) (by decide +kernel), List.mem_of_getElem? (i := 1609) (by decide +kernel), List.mem_of_getElem? (i := 1610) (by decide +kernel)⟩
theorem lw_p106 : lw_okq (⟨"UnimodularTablesModel", "isPlan", "(I)Z"⟩, 35) := ⟨⟨by decide +kernel, by decide +kernel⟩, List.mem_of_getElem? (i := 1151) (by decide +kernel), List.mem_of_getElem? (i := 1625) (by decide +kernel), List.mem_of_getElem? (i := 1626) (by decide +kernel)⟩
theorem lw_p107 : lw_okq (⟨"UnimodularTablesModel", "canStep", "([II)Z"⟩, 35) := ⟨⟨by decide +kernel, by decide +kernel⟩, List.mem_of_getElem? (i := 1151) (by decide +kernel), List.mem_of_getElem? (i := 1633) (by decide +kernel), List.mem_of_getElem? (i := 1634) (by decide +kernel)⟩
theorem lw_p108 : lw_okq (⟨"UnimodularTablesModel", "doesStep", "([II)V"⟩, 35) := ⟨⟨by decide +kernel, by decide +kernel⟩, List.mem_of_getElem? (i := 1151) (by decide +kernel), List.mem_of_getElem? (i := 1637) (by decide +kernel), List.mem_of_getElem? (i := 1638) (by decide +kernel)⟩
theorem lw_p109 : lw_okq (⟨"UnimodularTablesModel", "draw", "(I)I"⟩, 35) := ⟨⟨by decide +kernel, by decide +kernel⟩, List.mem_of_getElem? (i := 1151) (by decide +kernel), List.mem_of_getElem? (i := 1650) (by decide +kernel), List.mem_of_getElem? (i := 1651) (by decide +kernel)⟩
def lw_privs_7 : List (MethodName × Nat) := [(⟨"UnimodularTablesModel", "isScaled", "([I[I)Z"⟩, 35), (⟨"UnimodularTablesModel", "doRows", "(II)Z"⟩, 35), (⟨"UnimodularTablesModel", "doColumns", "(II)Z"⟩, 35), (⟨"UnimodularTablesModel", "isLaid", "()Z"⟩, 35), (⟨"UnimodularTablesModel", "laysParts", "()V"⟩, 35), (⟨"UnimodularTablesModel", "isThere", "(I)Z"⟩, 35), (⟨"UnimodularTablesModel", "isTotalWith", "(II)Z"⟩, 35), (⟨"UnimodularTablesModel", "doPack", "(I)Z"⟩, 35), (⟨"UnimodularTablesModel", "rowsOf", "(I)I"⟩, 35), (⟨"UnimodularTablesModel", "doCover", "(I)Z"⟩, 35), (⟨"UnimodularTablesModel", "isPlan", "(I)Z"⟩, 35), (⟨"UnimodularTablesModel", "canStep", "([II)Z"⟩, 35), (⟨"UnimodularTablesModel", "doesStep", "([II)V"⟩, 35), (⟨"UnimodularTablesModel", "draw", "(I)I"⟩, 35)]
theorem lw_r7 : ∀ q ∈ lw_privs_7, lw_okq q := List.forall_mem_cons.mpr ⟨lw_p96, List.forall_mem_cons.mpr ⟨lw_p97, List.forall_mem_cons.mpr ⟨lw_p98, List.forall_mem_cons.mpr ⟨lw_p99, List.forall_mem_cons.mpr ⟨lw_p100, List.forall_mem_cons.mpr ⟨lw_p101, List.forall_mem_cons.mpr ⟨lw_p102, List.forall_mem_cons.mpr ⟨lw_p103, List.forall_mem_cons.mpr ⟨lw_p104, List.forall_mem_cons.mpr ⟨lw_p105, List.forall_mem_cons.mpr ⟨lw_p106, List.forall_mem_cons.mpr ⟨lw_p107, List.forall_mem_cons.mpr ⟨lw_p108, List.forall_mem_cons.mpr ⟨lw_p109, fun _ h => absurd h List.not_mem_nil⟩⟩⟩⟩⟩⟩⟩⟩⟩⟩⟩⟩⟩⟩
def lw_privs : List (MethodName × Nat) := lw_privs_1 ++ (lw_privs_2 ++ (lw_privs_3 ++ (lw_privs_4 ++ (lw_privs_5 ++ (lw_privs_6 ++ (lw_privs_7))))))
def lw_tbl : List Cond := k2_sels lw_privs ++ tables_1
theorem lw_privs_ok : ∀ q ∈ lw_privs, lw_okq q := by
  show ∀ q ∈ lw_privs_1 ++ (lw_privs_2 ++ (lw_privs_3 ++ (lw_privs_4 ++ (lw_privs_5 ++ (lw_privs_6 ++ (lw_privs_7)))))), lw_okq q
  exact List.forall_mem_append.mpr ⟨lw_r1, List.forall_mem_append.mpr ⟨lw_r2, List.forall_mem_append.mpr ⟨lw_r3, List.forall_mem_append.mpr ⟨lw_r4, List.forall_mem_append.mpr ⟨lw_r5, List.forall_mem_append.mpr ⟨lw_r6, lw_r7⟩⟩⟩⟩⟩⟩
-- ===== end of PART A; then your names; then what follows =====
def RX0 : String := "UnimodularTables$Dice"
def TX0 : u_T := fun k => match k with
  | _ => ("UnimodularTables$Dice", "x", "J", false)
def tyX0 : Nat → FieldType := fun k => match k with
  | _ => .long
abbrev wsX00 : List Cond := u_ws RX0 TX0 1
theorem nmX0 : ∀ a, a < 1 → ∀ b, b < 1 → a ≠ b → (TX0 a).2.1 ≠ (TX0 b).2.1 := by decide +kernel
theorem tyX0_ok : ∀ k, k < 1 → parseFieldDescriptor (TX0 k).2.2.1 = some (tyX0 k) := by decide +kernel
abbrev cX0_init : ByteArray := prog_2_method_1_code
def yX0_init : MethodName := ⟨RX0, "<init>", "()V"⟩
abbrev cX0_draw : ByteArray := prog_2_method_2_code
def yX0_draw : MethodName := ⟨RX0, "draw", "(I)I"⟩
def RX1 : String := "UnimodularTables$Minors"
def TX1 : u_T := fun k => match k with
  | 0 => ("UnimodularTables$Minors", "dets", "[I", true)
  | 1 => ("UnimodularTables$Minors", "rowSets", "I", false)
  | 2 => ("UnimodularTables$Minors", "columnSets", "I", false)
  | 3 => ("UnimodularTables$Minors", "beyondRows", "I", false)
  | 4 => ("UnimodularTables$Minors", "beyondColumns", "I", false)
  | _ => ("UnimodularTables$Minors", "known", "Z", false)
def tyX1 : Nat → FieldType := fun k => match k with
  | 0 => .array .int
  | 1 => .int
  | 2 => .int
  | 3 => .int
  | 4 => .int
  | _ => .boolean
abbrev wsX10 : List Cond := u_ws RX1 TX1 6
theorem nmX1 : ∀ a, a < 6 → ∀ b, b < 6 → a ≠ b → (TX1 a).2.1 ≠ (TX1 b).2.1 := by decide +kernel
theorem tyX1_ok : ∀ k, k < 6 → parseFieldDescriptor (TX1 k).2.2.1 = some (tyX1 k) := by decide +kernel
abbrev cX1_init : ByteArray := prog_3_method_1_code
def yX1_init : MethodName := ⟨RX1, "<init>", "()V"⟩
abbrev cX1_reckon : ByteArray := prog_3_method_2_code
def yX1_reckon : MethodName := ⟨RX1, "reckon", "(LUnimodularTables$Table;)V"⟩
abbrev cX1_expanded : ByteArray := prog_3_method_3_code
def yX1_expanded : MethodName := ⟨RX1, "expanded", "(LUnimodularTables$Table;II)I"⟩
abbrev cX1_noteBeyond : ByteArray := prog_3_method_4_code
def yX1_noteBeyond : MethodName := ⟨RX1, "noteBeyond", "(II)V"⟩
abbrev cX1_allWithin : ByteArray := prog_3_method_5_code
def yX1_allWithin : MethodName := ⟨RX1, "allWithin", "()Z"⟩
abbrev cX1_of : ByteArray := prog_3_method_6_code
def yX1_of : MethodName := ⟨RX1, "of", "(II)I"⟩
abbrev cX1_allWithinIf : ByteArray := prog_3_method_7_code
def yX1_allWithinIf : MethodName := ⟨RX1, "allWithinIf", "(LUnimodularTables$Table;III)Z"⟩
abbrev cX1_cofactor : ByteArray := prog_3_method_8_code
def yX1_cofactor : MethodName := ⟨RX1, "cofactor", "(IIII)I"⟩
abbrev cX1_howMany : ByteArray := prog_3_method_9_code
def yX1_howMany : MethodName := ⟨RX1, "howMany", "(II)I"⟩
abbrev cX1_sortOf : ByteArray := prog_3_method_10_code
def yX1_sortOf : MethodName := ⟨RX1, "sortOf", "(I)I"⟩
abbrev cX1_howManyNotNought : ByteArray := prog_3_method_11_code
def yX1_howManyNotNought : MethodName := ⟨RX1, "howManyNotNought", "()I"⟩
abbrev cX1_largestNotNought : ByteArray := prog_3_method_12_code
def yX1_largestNotNought : MethodName := ⟨RX1, "largestNotNought", "(I)I"⟩
def RX2 : String := "UnimodularTables$Past"
def TX2 : u_T := fun k => match k with
  | 0 => ("UnimodularTables$Past", "tables", "[LUnimodularTables$Table;", true)
  | 1 => ("UnimodularTables$Past", "oldest", "I", false)
  | _ => ("UnimodularTables$Past", "size", "I", false)
def tyX2 : Nat → FieldType := fun k => match k with
  | 0 => .array (.object "UnimodularTables$Table")
  | 1 => .int
  | _ => .int
abbrev wsX20 : List Cond := u_ws RX2 TX2 3
theorem nmX2 : ∀ a, a < 3 → ∀ b, b < 3 → a ≠ b → (TX2 a).2.1 ≠ (TX2 b).2.1 := by decide +kernel
theorem tyX2_ok : ∀ k, k < 3 → parseFieldDescriptor (TX2 k).2.2.1 = some (tyX2 k) := by decide +kernel
abbrev cX2_init : ByteArray := prog_4_method_1_code
def yX2_init : MethodName := ⟨RX2, "<init>", "()V"⟩
abbrev cX2_clear : ByteArray := prog_4_method_2_code
def yX2_clear : MethodName := ⟨RX2, "clear", "()V"⟩
abbrev cX2_add : ByteArray := prog_4_method_3_code
def yX2_add : MethodName := ⟨RX2, "add", "(LUnimodularTables$Table;)V"⟩
abbrev cX2_takeBack : ByteArray := prog_4_method_4_code
def yX2_takeBack : MethodName := ⟨RX2, "takeBack", "(LUnimodularTables$Table;)V"⟩
def RX3 : String := "UnimodularTables$Pattern"
def TX3 : u_T := fun k => match k with
  | 0 => ("UnimodularTables$Pattern", "special", "LUnimodularTables$Table;", true)
  | 1 => ("UnimodularTables$Pattern", "moved", "LUnimodularTables$Table;", true)
  | _ => ("UnimodularTables$Pattern", "order", "[I", true)
def tyX3 : Nat → FieldType := fun k => match k with
  | 0 => .object "UnimodularTables$Table"
  | 1 => .object "UnimodularTables$Table"
  | _ => .array .int
abbrev wsX30 : List Cond := u_ws RX3 TX3 3
theorem nmX3 : ∀ a, a < 3 → ∀ b, b < 3 → a ≠ b → (TX3 a).2.1 ≠ (TX3 b).2.1 := by decide +kernel
theorem tyX3_ok : ∀ k, k < 3 → parseFieldDescriptor (TX3 k).2.2.1 = some (tyX3 k) := by decide +kernel
abbrev cX3_init : ByteArray := prog_5_method_1_code
def yX3_init : MethodName := ⟨RX3, "<init>", "()V"⟩
abbrev cX3_fits : ByteArray := prog_5_method_2_code
def yX3_fits : MethodName := ⟨RX3, "fits", "(LUnimodularTables$Table;Ljava/lang/String;)Z"⟩
abbrev cX3_write : ByteArray := prog_5_method_3_code
def yX3_write : MethodName := ⟨RX3, "write", "(Ljava/lang/String;)V"⟩
abbrev cX3_setOrder : ByteArray := prog_5_method_4_code
def yX3_setOrder : MethodName := ⟨RX3, "setOrder", "(I)V"⟩
abbrev cX3_notUsed : ByteArray := prog_5_method_5_code
def yX3_notUsed : MethodName := ⟨RX3, "notUsed", "(II)I"⟩
abbrev cX3_moveColumns : ByteArray := prog_5_method_6_code
def yX3_moveColumns : MethodName := ⟨RX3, "moveColumns", "(LUnimodularTables$Table;)Z"⟩
abbrev cX3_isAlike : ByteArray := prog_5_method_7_code
def yX3_isAlike : MethodName := ⟨RX3, "isAlike", "(LUnimodularTables$Table;II)Z"⟩
def RX4 : String := "UnimodularTables$Script"
def TX4 : u_T := fun k => match k with
  | 0 => ("UnimodularTables$Script", "size", "I", false)
  | 1 => ("UnimodularTables$Script", "kinds", "[I", true)
  | 2 => ("UnimodularTables$Script", "firsts", "[I", true)
  | 3 => ("UnimodularTables$Script", "seconds", "[I", true)
  | _ => ("UnimodularTables$Script", "values", "[I", true)
def tyX4 : Nat → FieldType := fun k => match k with
  | 0 => .int
  | 1 => .array .int
  | 2 => .array .int
  | 3 => .array .int
  | _ => .array .int
abbrev wsX40 : List Cond := u_ws RX4 TX4 5
theorem nmX4 : ∀ a, a < 5 → ∀ b, b < 5 → a ≠ b → (TX4 a).2.1 ≠ (TX4 b).2.1 := by decide +kernel
theorem tyX4_ok : ∀ k, k < 5 → parseFieldDescriptor (TX4 k).2.2.1 = some (tyX4 k) := by decide +kernel
abbrev cX4_init : ByteArray := prog_6_method_1_code
def yX4_init : MethodName := ⟨RX4, "<init>", "()V"⟩
abbrev cX4_read : ByteArray := prog_6_method_2_code
def yX4_read : MethodName := ⟨RX4, "read", "(LUnimodularTables$Tape;)I"⟩
abbrev cX4_isWhole : ByteArray := prog_6_method_3_code
def yX4_isWhole : MethodName := ⟨RX4, "isWhole", "(I)Z"⟩
abbrev cX4_begins : ByteArray := prog_6_method_4_code
def yX4_begins : MethodName := ⟨RX4, "begins", "(I)Z"⟩
abbrev cX4_goesOn : ByteArray := prog_6_method_5_code
def yX4_goesOn : MethodName := ⟨RX4, "goesOn", "(II)Z"⟩
abbrev cX4_tell : ByteArray := prog_6_method_6_code
def yX4_tell : MethodName := ⟨RX4, "tell", "(II)I"⟩
def RX5 : String := "UnimodularTables$Shape"
def TX5 : u_T := fun k => match k with
  | 0 => ("UnimodularTables$Shape", "rows", "I", false)
  | 1 => ("UnimodularTables$Shape", "columns", "I", false)
  | 2 => ("UnimodularTables$Shape", "across", "[I", true)
  | 3 => ("UnimodularTables$Shape", "down", "[I", true)
  | 4 => ("UnimodularTables$Shape", "parts", "I", false)
  | 5 => ("UnimodularTables$Shape", "partRows", "[I", true)
  | _ => ("UnimodularTables$Shape", "partColumns", "[I", true)
def tyX5 : Nat → FieldType := fun k => match k with
  | 0 => .int
  | 1 => .int
  | 2 => .array .int
  | 3 => .array .int
  | 4 => .int
  | 5 => .array .int
  | _ => .array .int
abbrev wsX50 : List Cond := u_ws RX5 TX5 7
theorem nmX5 : ∀ a, a < 7 → ∀ b, b < 7 → a ≠ b → (TX5 a).2.1 ≠ (TX5 b).2.1 := by decide +kernel
theorem tyX5_ok : ∀ k, k < 7 → parseFieldDescriptor (TX5 k).2.2.1 = some (tyX5 k) := by decide +kernel
abbrev cX5_init : ByteArray := prog_7_method_1_code
def yX5_init : MethodName := ⟨RX5, "<init>", "()V"⟩
abbrev cX5_takeFrom : ByteArray := prog_7_method_2_code
def yX5_takeFrom : MethodName := ⟨RX5, "takeFrom", "(LUnimodularTables$Table;)V"⟩
abbrev cX5_columnsMetBy : ByteArray := prog_7_method_3_code
def yX5_columnsMetBy : MethodName := ⟨RX5, "columnsMetBy", "(I)I"⟩
abbrev cX5_rowsMetBy : ByteArray := prog_7_method_4_code
def yX5_rowsMetBy : MethodName := ⟨RX5, "rowsMetBy", "(I)I"⟩
abbrev cX5_findParts : ByteArray := prog_7_method_5_code
def yX5_findParts : MethodName := ⟨RX5, "findParts", "()V"⟩
abbrev cX5_allJoinedTo : ByteArray := prog_7_method_6_code
def yX5_allJoinedTo : MethodName := ⟨RX5, "allJoinedTo", "(I)I"⟩
abbrev cX5_addPart : ByteArray := prog_7_method_7_code
def yX5_addPart : MethodName := ⟨RX5, "addPart", "(II)V"⟩
abbrev cX5_partOf : ByteArray := prog_7_method_8_code
def yX5_partOf : MethodName := ⟨RX5, "partOf", "(II)I"⟩
abbrev cX5_mostApart : ByteArray := prog_7_method_9_code
def yX5_mostApart : MethodName := ⟨RX5, "mostApart", "()I"⟩
abbrev cX5_areApart : ByteArray := prog_7_method_10_code
def yX5_areApart : MethodName := ⟨RX5, "areApart", "(I)Z"⟩
abbrev cX5_fewestMeeting : ByteArray := prog_7_method_11_code
def yX5_fewestMeeting : MethodName := ⟨RX5, "fewestMeeting", "()I"⟩
abbrev cX5_shortestRound : ByteArray := prog_7_method_12_code
def yX5_shortestRound : MethodName := ⟨RX5, "shortestRound", "()I"⟩
abbrev cX5_roundBy : ByteArray := prog_7_method_13_code
def yX5_roundBy : MethodName := ⟨RX5, "roundBy", "(II)I"⟩
def RX6 : String := "UnimodularTables$Signing"
def TX6 : u_T := fun k => match k with
  | 0 => ("UnimodularTables$Signing", "signs", "LUnimodularTables$Table;", true)
  | 1 => ("UnimodularTables$Signing", "rowParts", "[I", true)
  | 2 => ("UnimodularTables$Signing", "columnParts", "[I", true)
  | 3 => ("UnimodularTables$Signing", "rowsFar", "[I", true)
  | 4 => ("UnimodularTables$Signing", "columnsFar", "[I", true)
  | 5 => ("UnimodularTables$Signing", "nextRow", "I", false)
  | 6 => ("UnimodularTables$Signing", "nextColumn", "I", false)
  | _ => ("UnimodularTables$Signing", "known", "Z", false)
def tyX6 : Nat → FieldType := fun k => match k with
  | 0 => .object "UnimodularTables$Table"
  | 1 => .array .int
  | 2 => .array .int
  | 3 => .array .int
  | 4 => .array .int
  | 5 => .int
  | 6 => .int
  | _ => .boolean
abbrev wsX60 : List Cond := u_ws RX6 TX6 8
theorem nmX6 : ∀ a, a < 8 → ∀ b, b < 8 → a ≠ b → (TX6 a).2.1 ≠ (TX6 b).2.1 := by decide +kernel
theorem tyX6_ok : ∀ k, k < 8 → parseFieldDescriptor (TX6 k).2.2.1 = some (tyX6 k) := by decide +kernel
abbrev cX6_init : ByteArray := prog_8_method_1_code
def yX6_init : MethodName := ⟨RX6, "<init>", "()V"⟩
abbrev cX6_signAll : ByteArray := prog_8_method_2_code
def yX6_signAll : MethodName := ⟨RX6, "signAll", "(LUnimodularTables$Table;)V"⟩
abbrev cX6_signForest : ByteArray := prog_8_method_3_code
def yX6_signForest : MethodName := ⟨RX6, "signForest", "(LUnimodularTables$Table;)V"⟩
abbrev cX6_unite : ByteArray := prog_8_method_4_code
def yX6_unite : MethodName := ⟨RX6, "unite", "(II)V"⟩
abbrev cX6_findNext : ByteArray := prog_8_method_5_code
def yX6_findNext : MethodName := ⟨RX6, "findNext", "(LUnimodularTables$Table;)Z"⟩
abbrev cX6_measureFrom : ByteArray := prog_8_method_6_code
def yX6_measureFrom : MethodName := ⟨RX6, "measureFrom", "(I)V"⟩
abbrev cX6_reachRows : ByteArray := prog_8_method_7_code
def yX6_reachRows : MethodName := ⟨RX6, "reachRows", "(I)V"⟩
abbrev cX6_reachColumns : ByteArray := prog_8_method_8_code
def yX6_reachColumns : MethodName := ⟨RX6, "reachColumns", "(I)V"⟩
abbrev cX6_sumOfWay : ByteArray := prog_8_method_9_code
def yX6_sumOfWay : MethodName := ⟨RX6, "sumOfWay", "(I)I"⟩
abbrev cX6_columnToldAt : ByteArray := prog_8_method_10_code
def yX6_columnToldAt : MethodName := ⟨RX6, "columnToldAt", "(II)I"⟩
abbrev cX6_rowToldAt : ByteArray := prog_8_method_11_code
def yX6_rowToldAt : MethodName := ⟨RX6, "rowToldAt", "(II)I"⟩
def RX7 : String := "UnimodularTables$Table"
def TX7 : u_T := fun k => match k with
  | 0 => ("UnimodularTables$Table", "rows", "I", false)
  | 1 => ("UnimodularTables$Table", "columns", "I", false)
  | _ => ("UnimodularTables$Table", "cells", "[I", true)
def tyX7 : Nat → FieldType := fun k => match k with
  | 0 => .int
  | 1 => .int
  | _ => .array .int
abbrev wsX70 : List Cond := u_ws RX7 TX7 3
theorem nmX7 : ∀ a, a < 3 → ∀ b, b < 3 → a ≠ b → (TX7 a).2.1 ≠ (TX7 b).2.1 := by decide +kernel
theorem tyX7_ok : ∀ k, k < 3 → parseFieldDescriptor (TX7 k).2.2.1 = some (tyX7 k) := by decide +kernel
abbrev cX7_init : ByteArray := prog_9_method_1_code
def yX7_init : MethodName := ⟨RX7, "<init>", "()V"⟩
abbrev cX7_isNone : ByteArray := prog_9_method_2_code
def yX7_isNone : MethodName := ⟨RX7, "isNone", "()Z"⟩
abbrev cX7_has : ByteArray := prog_9_method_3_code
def yX7_has : MethodName := ⟨RX7, "has", "(II)Z"⟩
abbrev cX7_hasRowSet : ByteArray := prog_9_method_4_code
def yX7_hasRowSet : MethodName := ⟨RX7, "hasRowSet", "(I)Z"⟩
abbrev cX7_hasColumnSet : ByteArray := prog_9_method_5_code
def yX7_hasColumnSet : MethodName := ⟨RX7, "hasColumnSet", "(I)Z"⟩
abbrev cX7_at : ByteArray := prog_9_method_6_code
def yX7_at : MethodName := ⟨RX7, "at", "(II)I"⟩
abbrev cX7_put : ByteArray := prog_9_method_7_code
def yX7_put : MethodName := ⟨RX7, "put", "(III)V"⟩
abbrev cX7_copyFrom : ByteArray := prog_9_method_8_code
def yX7_copyFrom : MethodName := ⟨RX7, "copyFrom", "(LUnimodularTables$Table;)V"⟩
abbrev cX7_clear : ByteArray := prog_9_method_9_code
def yX7_clear : MethodName := ⟨RX7, "clear", "(II)V"⟩
abbrev cX7_notNought : ByteArray := prog_9_method_10_code
def yX7_notNought : MethodName := ⟨RX7, "notNought", "()I"⟩
abbrev cX7_read : ByteArray := prog_9_method_11_code
def yX7_read : MethodName := ⟨RX7, "read", "(LUnimodularTables$Tape;)I"⟩
abbrev cX7_isRowFull : ByteArray := prog_9_method_12_code
def yX7_isRowFull : MethodName := ⟨RX7, "isRowFull", "(III)Z"⟩
abbrev cX7_act : ByteArray := prog_9_method_13_code
def yX7_act : MethodName := ⟨RX7, "act", "(IIII)I"⟩
abbrev cX7_onColumns : ByteArray := prog_9_method_14_code
def yX7_onColumns : MethodName := ⟨RX7, "onColumns", "(III)I"⟩
abbrev cX7_negateRow : ByteArray := prog_9_method_15_code
def yX7_negateRow : MethodName := ⟨RX7, "negateRow", "(I)I"⟩
abbrev cX7_changeRows : ByteArray := prog_9_method_16_code
def yX7_changeRows : MethodName := ⟨RX7, "changeRows", "(II)I"⟩
abbrev cX7_dropRow : ByteArray := prog_9_method_17_code
def yX7_dropRow : MethodName := ⟨RX7, "dropRow", "(I)I"⟩
abbrev cX7_set : ByteArray := prog_9_method_18_code
def yX7_set : MethodName := ⟨RX7, "set", "(III)I"⟩
abbrev cX7_transpose : ByteArray := prog_9_method_19_code
def yX7_transpose : MethodName := ⟨RX7, "transpose", "()I"⟩
abbrev cX7_turn : ByteArray := prog_9_method_20_code
def yX7_turn : MethodName := ⟨RX7, "turn", "(II)I"⟩
abbrev cX7_canTurn : ByteArray := prog_9_method_21_code
def yX7_canTurn : MethodName := ⟨RX7, "canTurn", "(II)Z"⟩
abbrev cX7_becomeJoined : ByteArray := prog_9_method_22_code
def yX7_becomeJoined : MethodName := ⟨RX7, "becomeJoined", "(LUnimodularTables$Table;LUnimodularTables$Table;)I"⟩
abbrev cX7_becomeLinked : ByteArray := prog_9_method_23_code
def yX7_becomeLinked : MethodName := ⟨RX7, "becomeLinked", "(LUnimodularTables$Table;LUnimodularTables$Table;)I"⟩
abbrev cX7_linked : ByteArray := prog_9_method_24_code
def yX7_linked : MethodName := ⟨RX7, "linked", "(LUnimodularTables$Table;LUnimodularTables$Table;II)I"⟩
abbrev cX7_halved : ByteArray := prog_9_method_25_code
def yX7_halved : MethodName := ⟨RX7, "halved", "(I)I"⟩
abbrev cX7_halvesAll : ByteArray := prog_9_method_26_code
def yX7_halvesAll : MethodName := ⟨RX7, "halvesAll", "(II)Z"⟩
abbrev cX7_scalesTo : ByteArray := prog_9_method_27_code
def yX7_scalesTo : MethodName := ⟨RX7, "scalesTo", "(LUnimodularTables$Table;)Z"⟩
abbrev cX7_columnIs : ByteArray := prog_9_method_28_code
def yX7_columnIs : MethodName := ⟨RX7, "columnIs", "(LUnimodularTables$Table;III)Z"⟩
def RX8 : String := "UnimodularTables$Tape"
def TX8 : u_T := fun k => match k with
  | 0 => ("UnimodularTables$Tape", "bytes", "[I", true)
  | _ => ("UnimodularTables$Tape", "length", "I", false)
def tyX8 : Nat → FieldType := fun k => match k with
  | 0 => .array .int
  | _ => .int
abbrev wsX80 : List Cond := u_ws RX8 TX8 2
theorem nmX8 : ∀ a, a < 2 → ∀ b, b < 2 → a ≠ b → (TX8 a).2.1 ≠ (TX8 b).2.1 := by decide +kernel
theorem tyX8_ok : ∀ k, k < 2 → parseFieldDescriptor (TX8 k).2.2.1 = some (tyX8 k) := by decide +kernel
abbrev cX8_init : ByteArray := prog_10_method_1_code
def yX8_init : MethodName := ⟨RX8, "<init>", "()V"⟩
abbrev cX8_bytesIn : ByteArray := prog_10_method_2_code
def yX8_bytesIn : MethodName := ⟨RX8, "bytesIn", "(I)I"⟩
abbrev cX8_append : ByteArray := prog_10_method_3_code
def yX8_append : MethodName := ⟨RX8, "append", "(I)V"⟩
abbrev cX8_at : ByteArray := prog_10_method_4_code
def yX8_at : MethodName := ⟨RX8, "at", "(I)I"⟩
def RX9 : String := "UnimodularTables$Tree"
def TX9 : u_T := fun k => match k with
  | 0 => ("UnimodularTables$Tree", "plan", "LUnimodularTables$Table;", true)
  | 1 => ("UnimodularTables$Tree", "tails", "[I", true)
  | 2 => ("UnimodularTables$Tree", "heads", "[I", true)
  | 3 => ("UnimodularTables$Tree", "found", "Z", false)
  | _ => ("UnimodularTables$Tree", "known", "Z", false)
def tyX9 : Nat → FieldType := fun k => match k with
  | 0 => .object "UnimodularTables$Table"
  | 1 => .array .int
  | 2 => .array .int
  | 3 => .boolean
  | _ => .boolean
abbrev wsX90 : List Cond := u_ws RX9 TX9 5
theorem nmX9 : ∀ a, a < 5 → ∀ b, b < 5 → a ≠ b → (TX9 a).2.1 ≠ (TX9 b).2.1 := by decide +kernel
theorem tyX9_ok : ∀ k, k < 5 → parseFieldDescriptor (TX9 k).2.2.1 = some (tyX9 k) := by decide +kernel
abbrev cX9_init : ByteArray := prog_11_method_1_code
def yX9_init : MethodName := ⟨RX9, "<init>", "()V"⟩
abbrev cX9_seek : ByteArray := prog_11_method_2_code
def yX9_seek : MethodName := ⟨RX9, "seek", "(LUnimodularTables$Table;ZZ)V"⟩
abbrev cX9_grow : ByteArray := prog_11_method_3_code
def yX9_grow : MethodName := ⟨RX9, "grow", "(I)Z"⟩
abbrev cX9_isNew : ByteArray := prog_11_method_4_code
def yX9_isNew : MethodName := ⟨RX9, "isNew", "(II)Z"⟩
abbrev cX9_growBy : ByteArray := prog_11_method_5_code
def yX9_growBy : MethodName := ⟨RX9, "growBy", "(IIII)Z"⟩
abbrev cX9_arcsAt : ByteArray := prog_11_method_6_code
def yX9_arcsAt : MethodName := ⟨RX9, "arcsAt", "(II)I"⟩
abbrev cX9_moveEnds : ByteArray := prog_11_method_7_code
def yX9_moveEnds : MethodName := ⟨RX9, "moveEnds", "(III)V"⟩
abbrev cX9_areWays : ByteArray := prog_11_method_8_code
def yX9_areWays : MethodName := ⟨RX9, "areWays", "(I)Z"⟩
abbrev cX9_starts : ByteArray := prog_11_method_9_code
def yX9_starts : MethodName := ⟨RX9, "starts", "(II)I"⟩
abbrev cX9_leaves : ByteArray := prog_11_method_10_code
def yX9_leaves : MethodName := ⟨RX9, "leaves", "(II)I"⟩
abbrev cX9_reaches : ByteArray := prog_11_method_11_code
def yX9_reaches : MethodName := ⟨RX9, "reaches", "(II)I"⟩
abbrev cX9_endOf : ByteArray := prog_11_method_12_code
def yX9_endOf : MethodName := ⟨RX9, "endOf", "(II)I"⟩
abbrev cX9_arcOnWay : ByteArray := prog_11_method_13_code
def yX9_arcOnWay : MethodName := ⟨RX9, "arcOnWay", "(II)I"⟩
abbrev cX9_arcFrom : ByteArray := prog_11_method_14_code
def yX9_arcFrom : MethodName := ⟨RX9, "arcFrom", "(II)I"⟩
def RX10 : String := "UnimodularTables"
def TX10 : u_T := fun k => match k with
  | 0 => ("UnimodularTables", "tape", "LUnimodularTables$Tape;", true)
  | 1 => ("UnimodularTables", "table", "LUnimodularTables$Table;", true)
  | 2 => ("UnimodularTables", "before", "LUnimodularTables$Table;", true)
  | 3 => ("UnimodularTables", "draft", "LUnimodularTables$Table;", true)
  | 4 => ("UnimodularTables", "past", "LUnimodularTables$Past;", true)
  | 5 => ("UnimodularTables", "keptTables", "[LUnimodularTables$Table;", true)
  | 6 => ("UnimodularTables", "keptCount", "I", false)
  | 7 => ("UnimodularTables", "scripts", "[LUnimodularTables$Script;", true)
  | 8 => ("UnimodularTables", "scriptCount", "I", false)
  | 9 => ("UnimodularTables", "pictured", "LUnimodularTables$Table;", true)
  | 10 => ("UnimodularTables", "picturedKept", "I", false)
  | 11 => ("UnimodularTables", "refusals", "[I", true)
  | 12 => ("UnimodularTables", "minors", "LUnimodularTables$Minors;", true)
  | 13 => ("UnimodularTables", "tree", "LUnimodularTables$Tree;", true)
  | 14 => ("UnimodularTables", "cotree", "LUnimodularTables$Tree;", true)
  | 15 => ("UnimodularTables", "signing", "LUnimodularTables$Signing;", true)
  | 16 => ("UnimodularTables", "shape", "LUnimodularTables$Shape;", true)
  | 17 => ("UnimodularTables", "pattern", "LUnimodularTables$Pattern;", true)
  | _ => ("UnimodularTables", "dice", "LUnimodularTables$Dice;", true)
def tyX10 : Nat → FieldType := fun k => match k with
  | 0 => .object "UnimodularTables$Tape"
  | 1 => .object "UnimodularTables$Table"
  | 2 => .object "UnimodularTables$Table"
  | 3 => .object "UnimodularTables$Table"
  | 4 => .object "UnimodularTables$Past"
  | 5 => .array (.object "UnimodularTables$Table")
  | 6 => .int
  | 7 => .array (.object "UnimodularTables$Script")
  | 8 => .int
  | 9 => .object "UnimodularTables$Table"
  | 10 => .int
  | 11 => .array .int
  | 12 => .object "UnimodularTables$Minors"
  | 13 => .object "UnimodularTables$Tree"
  | 14 => .object "UnimodularTables$Tree"
  | 15 => .object "UnimodularTables$Signing"
  | 16 => .object "UnimodularTables$Shape"
  | 17 => .object "UnimodularTables$Pattern"
  | _ => .object "UnimodularTables$Dice"
abbrev wsX100 : List Cond := u_ws RX10 TX10 19
theorem nmX10 : ∀ a, a < 19 → ∀ b, b < 19 → a ≠ b → (TX10 a).2.1 ≠ (TX10 b).2.1 := by decide +kernel
theorem tyX10_ok : ∀ k, k < 19 → parseFieldDescriptor (TX10 k).2.2.1 = some (tyX10 k) := by decide +kernel
abbrev cX10_init : ByteArray := prog_1_method_1_code
def yX10_init : MethodName := ⟨RX10, "<init>", "()V"⟩
abbrev cX10_feed : ByteArray := prog_1_method_2_code
def yX10_feed : MethodName := ⟨RX10, "feed", "(IIIII)I"⟩
abbrev cX10_end : ByteArray := prog_1_method_3_code
def yX10_end : MethodName := ⟨RX10, "end", "(I)Z"⟩
abbrev cX10_fault : ByteArray := prog_1_method_4_code
def yX10_fault : MethodName := ⟨RX10, "fault", "(I)I"⟩
abbrev cX10_text : ByteArray := prog_1_method_5_code
def yX10_text : MethodName := ⟨RX10, "text", "(I)I"⟩
abbrev cX10_entry : ByteArray := prog_1_method_6_code
def yX10_entry : MethodName := ⟨RX10, "entry", "(II)I"⟩
abbrev cX10_change : ByteArray := prog_1_method_7_code
def yX10_change : MethodName := ⟨RX10, "change", "(III)I"⟩
abbrev cX10_deal : ByteArray := prog_1_method_8_code
def yX10_deal : MethodName := ⟨RX10, "deal", "(III)I"⟩
abbrev cX10_keep : ByteArray := prog_1_method_9_code
def yX10_keep : MethodName := ⟨RX10, "keep", "()I"⟩
abbrev cX10_kept : ByteArray := prog_1_method_10_code
def yX10_kept : MethodName := ⟨RX10, "kept", "(III)I"⟩
abbrev cX10_join : ByteArray := prog_1_method_11_code
def yX10_join : MethodName := ⟨RX10, "join", "(III)I"⟩
abbrev cX10_undo : ByteArray := prog_1_method_12_code
def yX10_undo : MethodName := ⟨RX10, "undo", "()I"⟩
abbrev cX10_det : ByteArray := prog_1_method_13_code
def yX10_det : MethodName := ⟨RX10, "det", "(II)I"⟩
abbrev cX10_squares : ByteArray := prog_1_method_14_code
def yX10_squares : MethodName := ⟨RX10, "squares", "(II)I"⟩
abbrev cX10_total : ByteArray := prog_1_method_15_code
def yX10_total : MethodName := ⟨RX10, "total", "()I"⟩
abbrev cX10_witness : ByteArray := prog_1_method_16_code
def yX10_witness : MethodName := ⟨RX10, "witness", "(I)I"⟩
abbrev cX10_halves : ByteArray := prog_1_method_17_code
def yX10_halves : MethodName := ⟨RX10, "halves", "(I)I"⟩
abbrev cX10_unhalved : ByteArray := prog_1_method_18_code
def yX10_unhalved : MethodName := ⟨RX10, "unhalved", "()I"⟩
abbrev cX10_network : ByteArray := prog_1_method_19_code
def yX10_network : MethodName := ⟨RX10, "network", "(I)I"⟩
abbrev cX10_arc : ByteArray := prog_1_method_20_code
def yX10_arc : MethodName := ⟨RX10, "arc", "(III)I"⟩
abbrev cX10_way : ByteArray := prog_1_method_21_code
def yX10_way : MethodName := ⟨RX10, "way", "(III)I"⟩
abbrev cX10_signed : ByteArray := prog_1_method_22_code
def yX10_signed : MethodName := ⟨RX10, "signed", "(II)I"⟩
abbrev cX10_regular : ByteArray := prog_1_method_23_code
def yX10_regular : MethodName := ⟨RX10, "regular", "()I"⟩
abbrev cX10_scaled : ByteArray := prog_1_method_24_code
def yX10_scaled : MethodName := ⟨RX10, "scaled", "(I)I"⟩
abbrev cX10_special : ByteArray := prog_1_method_25_code
def yX10_special : MethodName := ⟨RX10, "special", "()I"⟩
abbrev cX10_block : ByteArray := prog_1_method_26_code
def yX10_block : MethodName := ⟨RX10, "block", "(II)I"⟩
abbrev cX10_rank : ByteArray := prog_1_method_27_code
def yX10_rank : MethodName := ⟨RX10, "rank", "(I)I"⟩
abbrev cX10_bases : ByteArray := prog_1_method_28_code
def yX10_bases : MethodName := ⟨RX10, "bases", "()I"⟩
abbrev cX10_mends : ByteArray := prog_1_method_29_code
def yX10_mends : MethodName := ⟨RX10, "mends", "()I"⟩
abbrev cX10_fragile : ByteArray := prog_1_method_30_code
def yX10_fragile : MethodName := ⟨RX10, "fragile", "()I"⟩
abbrev cX10_fills : ByteArray := prog_1_method_31_code
def yX10_fills : MethodName := ⟨RX10, "fills", "(II)I"⟩
abbrev cX10_pack : ByteArray := prog_1_method_32_code
def yX10_pack : MethodName := ⟨RX10, "pack", "(I)I"⟩
abbrev cX10_adjoint : ByteArray := prog_1_method_33_code
def yX10_adjoint : MethodName := ⟨RX10, "adjoint", "(II)I"⟩
abbrev cX10_cycle : ByteArray := prog_1_method_34_code
def yX10_cycle : MethodName := ⟨RX10, "cycle", "()I"⟩
abbrev cX10_step : ByteArray := prog_1_method_35_code
def yX10_step : MethodName := ⟨RX10, "step", "(III)I"⟩
abbrev cX10_run : ByteArray := prog_1_method_36_code
def yX10_run : MethodName := ⟨RX10, "run", "(II)I"⟩
abbrev cX10_perform : ByteArray := prog_1_method_37_code
def yX10_perform : MethodName := ⟨RX10, "perform", "(I)I"⟩
abbrev cX10_draws : ByteArray := prog_1_method_38_code
def yX10_draws : MethodName := ⟨RX10, "draws", "(IJ)I"⟩
abbrev cX10_status : ByteArray := prog_1_method_39_code
def yX10_status : MethodName := ⟨RX10, "status", "(I)I"⟩
abbrev cX10_image : ByteArray := prog_1_method_40_code
def yX10_image : MethodName := ⟨RX10, "image", "()I"⟩
abbrev cX10_back : ByteArray := prog_1_method_41_code
def yX10_back : MethodName := ⟨RX10, "back", "()I"⟩
abbrev cX10_count : ByteArray := prog_1_method_42_code
def yX10_count : MethodName := ⟨RX10, "count", "(I)I"⟩
abbrev cX10_tableFromTape : ByteArray := prog_1_method_43_code
def yX10_tableFromTape : MethodName := ⟨RX10, "tableFromTape", "()I"⟩
abbrev cX10_scriptFromTape : ByteArray := prog_1_method_44_code
def yX10_scriptFromTape : MethodName := ⟨RX10, "scriptFromTape", "()I"⟩
abbrev cX10_hasSide : ByteArray := prog_1_method_45_code
def yX10_hasSide : MethodName := ⟨RX10, "hasSide", "(I)Z"⟩
abbrev cX10_isKept : ByteArray := prog_1_method_46_code
def yX10_isKept : MethodName := ⟨RX10, "isKept", "(I)Z"⟩
abbrev cX10_isScript : ByteArray := prog_1_method_47_code
def yX10_isScript : MethodName := ⟨RX10, "isScript", "(I)Z"⟩
abbrev cX10_refused : ByteArray := prog_1_method_48_code
def yX10_refused : MethodName := ⟨RX10, "refused", "(I)Z"⟩
abbrev cX10_actOfDeal : ByteArray := prog_1_method_49_code
def yX10_actOfDeal : MethodName := ⟨RX10, "actOfDeal", "(I)I"⟩
abbrev cX10_attempt : ByteArray := prog_1_method_50_code
def yX10_attempt : MethodName := ⟨RX10, "attempt", "(IIII)I"⟩
abbrev cX10_attemptSum : ByteArray := prog_1_method_51_code
def yX10_attemptSum : MethodName := ⟨RX10, "attemptSum", "(III)I"⟩
abbrev cX10_attemptDraw : ByteArray := prog_1_method_52_code
def yX10_attemptDraw : MethodName := ⟨RX10, "attemptDraw", "()I"⟩
abbrev cX10_settle : ByteArray := prog_1_method_53_code
def yX10_settle : MethodName := ⟨RX10, "settle", "(I)I"⟩
abbrev cX10_forget : ByteArray := prog_1_method_54_code
def yX10_forget : MethodName := ⟨RX10, "forget", "()V"⟩
abbrev cX10_knownMinors : ByteArray := prog_1_method_55_code
def yX10_knownMinors : MethodName := ⟨RX10, "knownMinors", "()LUnimodularTables$Minors;"⟩
abbrev cX10_knownTree : ByteArray := prog_1_method_56_code
def yX10_knownTree : MethodName := ⟨RX10, "knownTree", "(I)LUnimodularTables$Tree;"⟩
abbrev cX10_knownSigns : ByteArray := prog_1_method_57_code
def yX10_knownSigns : MethodName := ⟨RX10, "knownSigns", "()LUnimodularTables$Table;"⟩
abbrev cX10_isTotal : ByteArray := prog_1_method_58_code
def yX10_isTotal : MethodName := ⟨RX10, "isTotal", "(LUnimodularTables$Table;)Z"⟩
abbrev cX10_firstMend : ByteArray := prog_1_method_59_code
def yX10_firstMend : MethodName := ⟨RX10, "firstMend", "()I"⟩
abbrev cX10_valueOfSign : ByteArray := prog_1_method_60_code
def yX10_valueOfSign : MethodName := ⟨RX10, "valueOfSign", "(I)I"⟩
abbrev cX10_isBeyond : ByteArray := prog_1_method_61_code
def yX10_isBeyond : MethodName := ⟨RX10, "isBeyond", "(I)Z"⟩
abbrev cX10_isIn : ByteArray := prog_1_method_62_code
def yX10_isIn : MethodName := ⟨RX10, "isIn", "(II)Z"⟩
def RX11 : String := "UnimodularTablesModel"
def TX11 : u_T := fun k => match k with
  | 0 => ("UnimodularTablesModel", "thrown", "I", false)
  | 1 => ("UnimodularTablesModel", "tape", "[B", true)
  | 2 => ("UnimodularTablesModel", "length", "I", false)
  | 3 => ("UnimodularTablesModel", "at", "I", false)
  | 4 => ("UnimodularTablesModel", "fault", "I", false)
  | 5 => ("UnimodularTablesModel", "now", "[I", true)
  | 6 => ("UnimodularTablesModel", "read", "[I", true)
  | 7 => ("UnimodularTablesModel", "trial", "[I", true)
  | 8 => ("UnimodularTablesModel", "kept", "[I", true)
  | 9 => ("UnimodularTablesModel", "plan", "[I", true)
  | 10 => ("UnimodularTablesModel", "planLong", "[I", true)
  | 11 => ("UnimodularTablesModel", "status", "[I", true)
  | 12 => ("UnimodularTablesModel", "keptMany", "I", false)
  | 13 => ("UnimodularTablesModel", "plans", "I", false)
  | 14 => ("UnimodularTablesModel", "undoRow", "[I", true)
  | 15 => ("UnimodularTablesModel", "acts", "I", false)
  | 16 => ("UnimodularTablesModel", "dets", "[I", true)
  | 17 => ("UnimodularTablesModel", "from", "[I", true)
  | 18 => ("UnimodularTablesModel", "to", "[I", true)
  | 19 => ("UnimodularTablesModel", "treeRow", "[I", true)
  | 20 => ("UnimodularTablesModel", "walk", "[I", true)
  | 21 => ("UnimodularTablesModel", "walkLong", "I", false)
  | 22 => ("UnimodularTablesModel", "part", "[I", true)
  | 23 => ("UnimodularTablesModel", "steps", "[I", true)
  | 24 => ("UnimodularTablesModel", "sign", "[I", true)
  | 25 => ("UnimodularTablesModel", "factor", "[I", true)
  | 26 => ("UnimodularTablesModel", "goal", "[I", true)
  | 27 => ("UnimodularTablesModel", "laid", "[I", true)
  | 28 => ("UnimodularTablesModel", "rowsLaid", "[I", true)
  | 29 => ("UnimodularTablesModel", "columnsLaid", "[I", true)
  | 30 => ("UnimodularTablesModel", "apart", "[I", true)
  | 31 => ("UnimodularTablesModel", "x", "J", false)
  | 32 => ("UnimodularTablesModel", "imageRow", "[I", true)
  | 33 => ("UnimodularTablesModel", "imageKept", "I", false)
  | _ => ("UnimodularTablesModel", "hasImage", "Z", false)
def tyX11 : Nat → FieldType := fun k => match k with
  | 0 => .int
  | 1 => .array .byte
  | 2 => .int
  | 3 => .int
  | 4 => .int
  | 5 => .array .int
  | 6 => .array .int
  | 7 => .array .int
  | 8 => .array .int
  | 9 => .array .int
  | 10 => .array .int
  | 11 => .array .int
  | 12 => .int
  | 13 => .int
  | 14 => .array .int
  | 15 => .int
  | 16 => .array .int
  | 17 => .array .int
  | 18 => .array .int
  | 19 => .array .int
  | 20 => .array .int
  | 21 => .int
  | 22 => .array .int
  | 23 => .array .int
  | 24 => .array .int
  | 25 => .array .int
  | 26 => .array .int
  | 27 => .array .int
  | 28 => .array .int
  | 29 => .array .int
  | 30 => .array .int
  | 31 => .long
  | 32 => .array .int
  | 33 => .int
  | _ => .boolean
abbrev wsX110 : List Cond := u_ws RX11 TX11 35
theorem nmX11 : ∀ a, a < 35 → ∀ b, b < 35 → a ≠ b → (TX11 a).2.1 ≠ (TX11 b).2.1 := by decide +kernel
theorem tyX11_ok : ∀ k, k < 35 → parseFieldDescriptor (TX11 k).2.2.1 = some (tyX11 k) := by decide +kernel
abbrev cX11_init : ByteArray := prog_13_method_1_code
def yX11_init : MethodName := ⟨RX11, "<init>", "()V"⟩
abbrev cX11_thrown : ByteArray := prog_13_method_2_code
def yX11_thrown : MethodName := ⟨RX11, "thrown", "()I"⟩
abbrev cX11_isIn : ByteArray := prog_13_method_3_code
def yX11_isIn : MethodName := ⟨RX11, "isIn", "(JJJ)Z"⟩
abbrev cX11_has : ByteArray := prog_13_method_4_code
def yX11_has : MethodName := ⟨RX11, "has", "(II)Z"⟩
abbrev cX11_sizeOf : ByteArray := prog_13_method_5_code
def yX11_sizeOf : MethodName := ⟨RX11, "sizeOf", "(I)I"⟩
abbrev cX11_bytesOf : ByteArray := prog_13_method_6_code
def yX11_bytesOf : MethodName := ⟨RX11, "bytesOf", "(I)I"⟩
abbrev cX11_brings : ByteArray := prog_13_method_7_code
def yX11_brings : MethodName := ⟨RX11, "brings", "(I)V"⟩
abbrev cX11_feed : ByteArray := prog_13_method_8_code
def yX11_feed : MethodName := ⟨RX11, "feed", "(IIIII)I"⟩
abbrev cX11_end : ByteArray := prog_13_method_9_code
def yX11_end : MethodName := ⟨RX11, "end", "(I)Z"⟩
abbrev cX11_here : ByteArray := prog_13_method_10_code
def yX11_here : MethodName := ⟨RX11, "here", "()I"⟩
abbrev cX11_look : ByteArray := prog_13_method_11_code
def yX11_look : MethodName := ⟨RX11, "look", "()I"⟩
abbrev cX11_fails : ByteArray := prog_13_method_12_code
def yX11_fails : MethodName := ⟨RX11, "fails", "()V"⟩
abbrev cX11_spotOf : ByteArray := prog_13_method_13_code
def yX11_spotOf : MethodName := ⟨RX11, "spotOf", "(Ljava/lang/String;I)I"⟩
abbrev cX11_readRow : ByteArray := prog_13_method_14_code
def yX11_readRow : MethodName := ⟨RX11, "readRow", "()V"⟩
abbrev cX11_readTable : ByteArray := prog_13_method_15_code
def yX11_readTable : MethodName := ⟨RX11, "readTable", "()V"⟩
abbrev cX11_digit : ByteArray := prog_13_method_16_code
def yX11_digit : MethodName := ⟨RX11, "digit", "()I"⟩
abbrev cX11_readStep : ByteArray := prog_13_method_17_code
def yX11_readStep : MethodName := ⟨RX11, "readStep", "(I)V"⟩
abbrev cX11_readPlan : ByteArray := prog_13_method_18_code
def yX11_readPlan : MethodName := ⟨RX11, "readPlan", "()V"⟩
abbrev cX11_fault : ByteArray := prog_13_method_19_code
def yX11_fault : MethodName := ⟨RX11, "fault", "(I)I"⟩
abbrev cX11_text : ByteArray := prog_13_method_20_code
def yX11_text : MethodName := ⟨RX11, "text", "(I)I"⟩
abbrev cX11_copy : ByteArray := prog_13_method_21_code
def yX11_copy : MethodName := ⟨RX11, "copy", "([I[I)V"⟩
abbrev cX11_isCell : ByteArray := prog_13_method_22_code
def yX11_isCell : MethodName := ⟨RX11, "isCell", "([III)Z"⟩
abbrev cX11_entry : ByteArray := prog_13_method_23_code
def yX11_entry : MethodName := ⟨RX11, "entry", "(II)I"⟩
abbrev cX11_remember : ByteArray := prog_13_method_24_code
def yX11_remember : MethodName := ⟨RX11, "remember", "()V"⟩
abbrev cX11_refused : ByteArray := prog_13_method_25_code
def yX11_refused : MethodName := ⟨RX11, "refused", "(I)I"⟩
abbrev cX11_change : ByteArray := prog_13_method_26_code
def yX11_change : MethodName := ⟨RX11, "change", "(III)I"⟩
abbrev cX11_canTurn : ByteArray := prog_13_method_27_code
def yX11_canTurn : MethodName := ⟨RX11, "canTurn", "([III)Z"⟩
abbrev cX11_stops : ByteArray := prog_13_method_28_code
def yX11_stops : MethodName := ⟨RX11, "stops", "([IIII)I"⟩
abbrev cX11_swaps : ByteArray := prog_13_method_29_code
def yX11_swaps : MethodName := ⟨RX11, "swaps", "([III)V"⟩
abbrev cX11_does : ByteArray := prog_13_method_30_code
def yX11_does : MethodName := ⟨RX11, "does", "([IIII)V"⟩
abbrev cX11_deal : ByteArray := prog_13_method_31_code
def yX11_deal : MethodName := ⟨RX11, "deal", "(III)I"⟩
abbrev cX11_keep : ByteArray := prog_13_method_32_code
def yX11_keep : MethodName := ⟨RX11, "keep", "()I"⟩
abbrev cX11_isKept : ByteArray := prog_13_method_33_code
def yX11_isKept : MethodName := ⟨RX11, "isKept", "(I)Z"⟩
abbrev cX11_keptAt : ByteArray := prog_13_method_34_code
def yX11_keptAt : MethodName := ⟨RX11, "keptAt", "(III)I"⟩
abbrev cX11_kept : ByteArray := prog_13_method_35_code
def yX11_kept : MethodName := ⟨RX11, "kept", "(III)I"⟩
abbrev cX11_join : ByteArray := prog_13_method_36_code
def yX11_join : MethodName := ⟨RX11, "join", "(III)I"⟩
abbrev cX11_undo : ByteArray := prog_13_method_37_code
def yX11_undo : MethodName := ⟨RX11, "undo", "()I"⟩
abbrev cX11_laysDets : ByteArray := prog_13_method_38_code
def yX11_laysDets : MethodName := ⟨RX11, "laysDets", "([I)V"⟩
abbrev cX11_isSquare : ByteArray := prog_13_method_39_code
def yX11_isSquare : MethodName := ⟨RX11, "isSquare", "([III)Z"⟩
abbrev cX11_isTotal : ByteArray := prog_13_method_40_code
def yX11_isTotal : MethodName := ⟨RX11, "isTotal", "([I)Z"⟩
abbrev cX11_det : ByteArray := prog_13_method_41_code
def yX11_det : MethodName := ⟨RX11, "det", "(II)I"⟩
abbrev cX11_squares : ByteArray := prog_13_method_42_code
def yX11_squares : MethodName := ⟨RX11, "squares", "(II)I"⟩
abbrev cX11_total : ByteArray := prog_13_method_43_code
def yX11_total : MethodName := ⟨RX11, "total", "()I"⟩
abbrev cX11_witness : ByteArray := prog_13_method_44_code
def yX11_witness : MethodName := ⟨RX11, "witness", "(I)I"⟩
abbrev cX11_isHalf : ByteArray := prog_13_method_45_code
def yX11_isHalf : MethodName := ⟨RX11, "isHalf", "(II)Z"⟩
abbrev cX11_halfOf : ByteArray := prog_13_method_46_code
def yX11_halfOf : MethodName := ⟨RX11, "halfOf", "(I)I"⟩
abbrev cX11_halves : ByteArray := prog_13_method_47_code
def yX11_halves : MethodName := ⟨RX11, "halves", "(I)I"⟩
abbrev cX11_unhalved : ByteArray := prog_13_method_48_code
def yX11_unhalved : MethodName := ⟨RX11, "unhalved", "()I"⟩
abbrev cX11_isWay : ByteArray := prog_13_method_49_code
def yX11_isWay : MethodName := ⟨RX11, "isWay", "([IIII)Z"⟩
abbrev cX11_headOf : ByteArray := prog_13_method_50_code
def yX11_headOf : MethodName := ⟨RX11, "headOf", "([IIII)I"⟩
abbrev cX11_tailOf : ByteArray := prog_13_method_51_code
def yX11_tailOf : MethodName := ⟨RX11, "tailOf", "([IIII)I"⟩
abbrev cX11_areWays : ByteArray := prog_13_method_52_code
def yX11_areWays : MethodName := ⟨RX11, "areWays", "([III)Z"⟩
abbrev cX11_endsAt : ByteArray := prog_13_method_53_code
def yX11_endsAt : MethodName := ⟨RX11, "endsAt", "(III)I"⟩
abbrev cX11_bends : ByteArray := prog_13_method_54_code
def yX11_bends : MethodName := ⟨RX11, "bends", "(IIII)V"⟩
abbrev cX11_grows : ByteArray := prog_13_method_55_code
def yX11_grows : MethodName := ⟨RX11, "grows", "([III)Z"⟩
abbrev cX11_laysSide : ByteArray := prog_13_method_56_code
def yX11_laysSide : MethodName := ⟨RX11, "laysSide", "(I)V"⟩
abbrev cX11_hasTree : ByteArray := prog_13_method_57_code
def yX11_hasTree : MethodName := ⟨RX11, "hasTree", "(I)Z"⟩
abbrev cX11_network : ByteArray := prog_13_method_58_code
def yX11_network : MethodName := ⟨RX11, "network", "(I)I"⟩
abbrev cX11_arc : ByteArray := prog_13_method_59_code
def yX11_arc : MethodName := ⟨RX11, "arc", "(III)I"⟩
abbrev cX11_way : ByteArray := prog_13_method_60_code
def yX11_way : MethodName := ⟨RX11, "way", "(III)I"⟩
abbrev cX11_isTold : ByteArray := prog_13_method_61_code
def yX11_isTold : MethodName := ⟨RX11, "isTold", "(II)Z"⟩
abbrev cX11_areTold : ByteArray := prog_13_method_62_code
def yX11_areTold : MethodName := ⟨RX11, "areTold", "(II)Z"⟩
abbrev cX11_signBetween : ByteArray := prog_13_method_63_code
def yX11_signBetween : MethodName := ⟨RX11, "signBetween", "(II)I"⟩
abbrev cX11_laysSteps : ByteArray := prog_13_method_64_code
def yX11_laysSteps : MethodName := ⟨RX11, "laysSteps", "(I)V"⟩
abbrev cX11_laysSigns : ByteArray := prog_13_method_65_code
def yX11_laysSigns : MethodName := ⟨RX11, "laysSigns", "()V"⟩
abbrev cX11_signed : ByteArray := prog_13_method_66_code
def yX11_signed : MethodName := ⟨RX11, "signed", "(II)I"⟩
abbrev cX11_regular : ByteArray := prog_13_method_67_code
def yX11_regular : MethodName := ⟨RX11, "regular", "()I"⟩
abbrev cX11_isScaled : ByteArray := prog_13_method_68_code
def yX11_isScaled : MethodName := ⟨RX11, "isScaled", "([I[I)Z"⟩
abbrev cX11_scaled : ByteArray := prog_13_method_69_code
def yX11_scaled : MethodName := ⟨RX11, "scaled", "(I)I"⟩
abbrev cX11_isLaid : ByteArray := prog_13_method_70_code
def yX11_isLaid : MethodName := ⟨RX11, "isLaid", "()Z"⟩
abbrev cX11_doColumns : ByteArray := prog_13_method_71_code
def yX11_doColumns : MethodName := ⟨RX11, "doColumns", "(II)Z"⟩
abbrev cX11_doRows : ByteArray := prog_13_method_72_code
def yX11_doRows : MethodName := ⟨RX11, "doRows", "(II)Z"⟩
abbrev cX11_special : ByteArray := prog_13_method_73_code
def yX11_special : MethodName := ⟨RX11, "special", "()I"⟩
abbrev cX11_laysParts : ByteArray := prog_13_method_74_code
def yX11_laysParts : MethodName := ⟨RX11, "laysParts", "()V"⟩
abbrev cX11_isThere : ByteArray := prog_13_method_75_code
def yX11_isThere : MethodName := ⟨RX11, "isThere", "(I)Z"⟩
abbrev cX11_block : ByteArray := prog_13_method_76_code
def yX11_block : MethodName := ⟨RX11, "block", "(II)I"⟩
abbrev cX11_rank : ByteArray := prog_13_method_77_code
def yX11_rank : MethodName := ⟨RX11, "rank", "(I)I"⟩
abbrev cX11_bases : ByteArray := prog_13_method_78_code
def yX11_bases : MethodName := ⟨RX11, "bases", "()I"⟩
abbrev cX11_isTotalWith : ByteArray := prog_13_method_79_code
def yX11_isTotalWith : MethodName := ⟨RX11, "isTotalWith", "(II)Z"⟩
abbrev cX11_mends : ByteArray := prog_13_method_80_code
def yX11_mends : MethodName := ⟨RX11, "mends", "()I"⟩
abbrev cX11_fragile : ByteArray := prog_13_method_81_code
def yX11_fragile : MethodName := ⟨RX11, "fragile", "()I"⟩
abbrev cX11_fills : ByteArray := prog_13_method_82_code
def yX11_fills : MethodName := ⟨RX11, "fills", "(II)I"⟩
abbrev cX11_rowsOf : ByteArray := prog_13_method_83_code
def yX11_rowsOf : MethodName := ⟨RX11, "rowsOf", "(I)I"⟩
abbrev cX11_doPack : ByteArray := prog_13_method_84_code
def yX11_doPack : MethodName := ⟨RX11, "doPack", "(I)Z"⟩
abbrev cX11_doCover : ByteArray := prog_13_method_85_code
def yX11_doCover : MethodName := ⟨RX11, "doCover", "(I)Z"⟩
abbrev cX11_pack : ByteArray := prog_13_method_86_code
def yX11_pack : MethodName := ⟨RX11, "pack", "(I)I"⟩
abbrev cX11_adjoint : ByteArray := prog_13_method_87_code
def yX11_adjoint : MethodName := ⟨RX11, "adjoint", "(II)I"⟩
abbrev cX11_cycle : ByteArray := prog_13_method_88_code
def yX11_cycle : MethodName := ⟨RX11, "cycle", "()I"⟩
abbrev cX11_isPlan : ByteArray := prog_13_method_89_code
def yX11_isPlan : MethodName := ⟨RX11, "isPlan", "(I)Z"⟩
abbrev cX11_step : ByteArray := prog_13_method_90_code
def yX11_step : MethodName := ⟨RX11, "step", "(III)I"⟩
abbrev cX11_canStep : ByteArray := prog_13_method_91_code
def yX11_canStep : MethodName := ⟨RX11, "canStep", "([II)Z"⟩
abbrev cX11_doesStep : ByteArray := prog_13_method_92_code
def yX11_doesStep : MethodName := ⟨RX11, "doesStep", "([II)V"⟩
abbrev cX11_run : ByteArray := prog_13_method_93_code
def yX11_run : MethodName := ⟨RX11, "run", "(II)I"⟩
abbrev cX11_perform : ByteArray := prog_13_method_94_code
def yX11_perform : MethodName := ⟨RX11, "perform", "(I)I"⟩
abbrev cX11_draw : ByteArray := prog_13_method_95_code
def yX11_draw : MethodName := ⟨RX11, "draw", "(I)I"⟩
abbrev cX11_draws : ByteArray := prog_13_method_96_code
def yX11_draws : MethodName := ⟨RX11, "draws", "(IJ)I"⟩
abbrev cX11_status : ByteArray := prog_13_method_97_code
def yX11_status : MethodName := ⟨RX11, "status", "(I)I"⟩
abbrev cX11_image : ByteArray := prog_13_method_98_code
def yX11_image : MethodName := ⟨RX11, "image", "()I"⟩
abbrev cX11_back : ByteArray := prog_13_method_99_code
def yX11_back : MethodName := ⟨RX11, "back", "()I"⟩
abbrev cX11_count : ByteArray := prog_13_method_100_code
def yX11_count : MethodName := ⟨RX11, "count", "(I)I"⟩
def RJx145de : String := "java/io/Serializable"
def TJx145de : u_T := fun k => match k with
  | _ => ("", "", "", false)
def tyJx145de : Nat → FieldType := fun k => match k with
  | _ => .int
abbrev wsJx145de0 : List Cond := u_ws RJx145de TJx145de 0
theorem nmJx145de : ∀ a, a < 0 → ∀ b, b < 0 → a ≠ b → (TJx145de a).2.1 ≠ (TJx145de b).2.1 := by decide +kernel
theorem tyJx145de_ok : ∀ k, k < 0 → parseFieldDescriptor (TJx145de k).2.2.1 = some (tyJx145de k) := by decide +kernel
def RJx9f9b0 : String := "java/lang/CharSequence"
def TJx9f9b0 : u_T := fun k => match k with
  | _ => ("", "", "", false)
def tyJx9f9b0 : Nat → FieldType := fun k => match k with
  | _ => .int
abbrev wsJx9f9b00 : List Cond := u_ws RJx9f9b0 TJx9f9b0 0
theorem nmJx9f9b0 : ∀ a, a < 0 → ∀ b, b < 0 → a ≠ b → (TJx9f9b0 a).2.1 ≠ (TJx9f9b0 b).2.1 := by decide +kernel
theorem tyJx9f9b0_ok : ∀ k, k < 0 → parseFieldDescriptor (TJx9f9b0 k).2.2.1 = some (tyJx9f9b0 k) := by decide +kernel
def RJ11 : String := "java/lang/Character"
def TJ11 : u_T := fun k => match k with
  | _ => ("", "", "", false)
def tyJ11 : Nat → FieldType := fun k => match k with
  | _ => .int
abbrev wsJ110 : List Cond := u_ws RJ11 TJ11 0
theorem nmJ11 : ∀ a, a < 0 → ∀ b, b < 0 → a ≠ b → (TJ11 a).2.1 ≠ (TJ11 b).2.1 := by decide +kernel
theorem tyJ11_ok : ∀ k, k < 0 → parseFieldDescriptor (TJ11 k).2.2.1 = some (tyJ11 k) := by decide +kernel
abbrev cJ11_isValidCodePoint_9a6ad : ByteArray := prog_16_method_11_code
def yJ11_isValidCodePoint_9a6ad : MethodName := ⟨RJ11, "isValidCodePoint", "(I)Z"⟩
abbrev cJ11_highSurrogate_5068e : ByteArray := prog_16_method_28_code
def yJ11_highSurrogate_5068e : MethodName := ⟨RJ11, "highSurrogate", "(I)C"⟩
abbrev cJ11_lowSurrogate_5068e : ByteArray := prog_16_method_29_code
def yJ11_lowSurrogate_5068e : MethodName := ⟨RJ11, "lowSurrogate", "(I)C"⟩
def RJxb160c : String := "java/lang/Comparable"
def TJxb160c : u_T := fun k => match k with
  | _ => ("", "", "", false)
def tyJxb160c : Nat → FieldType := fun k => match k with
  | _ => .int
abbrev wsJxb160c0 : List Cond := u_ws RJxb160c TJxb160c 0
theorem nmJxb160c : ∀ a, a < 0 → ∀ b, b < 0 → a ≠ b → (TJxb160c a).2.1 ≠ (TJxb160c b).2.1 := by decide +kernel
theorem tyJxb160c_ok : ∀ k, k < 0 → parseFieldDescriptor (TJxb160c k).2.2.1 = some (tyJxb160c k) := by decide +kernel
def RJ6 : String := "java/lang/Integer"
def TJ6 : u_T := fun k => match k with
  | _ => ("", "", "", false)
def tyJ6 : Nat → FieldType := fun k => match k with
  | _ => .int
abbrev wsJ60 : List Cond := u_ws RJ6 TJ6 0
theorem nmJ6 : ∀ a, a < 0 → ∀ b, b < 0 → a ≠ b → (TJ6 a).2.1 ≠ (TJ6 b).2.1 := by decide +kernel
theorem tyJ6_ok : ∀ k, k < 0 → parseFieldDescriptor (TJ6 k).2.2.1 = some (tyJ6 k) := by decide +kernel
abbrev cJ6_bitCount_0f7a4 : ByteArray := prog_19_method_49_code
def yJ6_bitCount_0f7a4 : MethodName := ⟨RJ6, "bitCount", "(I)I"⟩
def RJ9 : String := "java/lang/Math"
def TJ9 : u_T := fun k => match k with
  | _ => ("", "", "", false)
def tyJ9 : Nat → FieldType := fun k => match k with
  | _ => .int
abbrev wsJ90 : List Cond := u_ws RJ9 TJ9 0
theorem nmJ9 : ∀ a, a < 0 → ∀ b, b < 0 → a ≠ b → (TJ9 a).2.1 ≠ (TJ9 b).2.1 := by decide +kernel
theorem tyJ9_ok : ∀ k, k < 0 → parseFieldDescriptor (TJ9 k).2.2.1 = some (tyJ9 k) := by decide +kernel
abbrev cJ9_abs_0f7a4 : ByteArray := prog_20_method_59_code
def yJ9_abs_0f7a4 : MethodName := ⟨RJ9, "abs", "(I)I"⟩
abbrev cJ9_max_7cf53 : ByteArray := prog_20_method_65_code
def yJ9_max_7cf53 : MethodName := ⟨RJ9, "max", "(II)I"⟩
abbrev cJ9_min_7cf53 : ByteArray := prog_20_method_69_code
def yJ9_min_7cf53 : MethodName := ⟨RJ9, "min", "(II)I"⟩
def RJ0 : String := "java/lang/String"
def TJ0 : u_T := fun k => match k with
  | _ => ("", "", "", false)
def tyJ0 : Nat → FieldType := fun k => match k with
  | _ => .int
abbrev wsJ00 : List Cond := u_ws RJ0 TJ0 0
theorem nmJ0 : ∀ a, a < 0 → ∀ b, b < 0 → a ≠ b → (TJ0 a).2.1 ≠ (TJ0 b).2.1 := by decide +kernel
theorem tyJ0_ok : ∀ k, k < 0 → parseFieldDescriptor (TJ0 k).2.2.1 = some (tyJ0 k) := by decide +kernel
abbrev cJ0_length_8abf5 : ByteArray := prog_22_method_54_code
def yJ0_length_8abf5 : MethodName := ⟨RJ0, "length", "()I"⟩
abbrev cJ0_charAt_5068e : ByteArray := prog_22_method_56_code
def yJ0_charAt_5068e : MethodName := ⟨RJ0, "charAt", "(I)C"⟩
abbrev cJ0_indexOf_0f7a4 : ByteArray := prog_22_method_79_code
def yJ0_indexOf_0f7a4 : MethodName := ⟨RJ0, "indexOf", "(I)I"⟩
abbrev cJ0_indexOf_7cf53 : ByteArray := prog_22_method_80_code
def yJ0_indexOf_7cf53 : MethodName := ⟨RJ0, "indexOf", "(II)I"⟩
abbrev cJ0_coder_7d493 : ByteArray := prog_22_method_152_code
def yJ0_coder_7d493 : MethodName := ⟨RJ0, "coder", "()B"⟩
abbrev cJ0_isLatin1_aae02 : ByteArray := prog_22_method_154_code
def yJ0_isLatin1_aae02 : MethodName := ⟨RJ0, "isLatin1", "()Z"⟩
abbrev cJ0_checkIndex_df160 : ByteArray := prog_22_method_155_code
def yJ0_checkIndex_df160 : MethodName := ⟨RJ0, "checkIndex", "(II)V"⟩
abbrev cJ0_checkBoundsBeginEnd_23922 : ByteArray := prog_22_method_158_code
def yJ0_checkBoundsBeginEnd_23922 : MethodName := ⟨RJ0, "checkBoundsBeginEnd", "(III)V"⟩
def RJ1 : String := "java/lang/StringLatin1"
def TJ1 : u_T := fun k => match k with
  | _ => ("", "", "", false)
def tyJ1 : Nat → FieldType := fun k => match k with
  | _ => .int
abbrev wsJ10 : List Cond := u_ws RJ1 TJ1 0
theorem nmJ1 : ∀ a, a < 0 → ∀ b, b < 0 → a ≠ b → (TJ1 a).2.1 ≠ (TJ1 b).2.1 := by decide +kernel
theorem tyJ1_ok : ∀ k, k < 0 → parseFieldDescriptor (TJ1 k).2.2.1 = some (tyJ1 k) := by decide +kernel
abbrev cJ1_charAt_3b067 : ByteArray := prog_23_method_2_code
def yJ1_charAt_3b067 : MethodName := ⟨RJ1, "charAt", "([BI)C"⟩
abbrev cJ1_canEncode_9a6ad : ByteArray := prog_23_method_4_code
def yJ1_canEncode_9a6ad : MethodName := ⟨RJ1, "canEncode", "(I)Z"⟩
abbrev cJ1_indexOf_4cfef : ByteArray := prog_23_method_22_code
def yJ1_indexOf_4cfef : MethodName := ⟨RJ1, "indexOf", "([BIII)I"⟩
abbrev cJ1_indexOfChar_4cfef : ByteArray := prog_23_method_23_code
def yJ1_indexOfChar_4cfef : MethodName := ⟨RJ1, "indexOfChar", "([BIII)I"⟩
def RJ2 : String := "java/lang/StringUTF16"
def TJ2 : u_T := fun k => match k with
  | _ => ("", "", "", false)
def tyJ2 : Nat → FieldType := fun k => match k with
  | _ => .int
abbrev wsJ20 : List Cond := u_ws RJ2 TJ2 0
theorem nmJ2 : ∀ a, a < 0 → ∀ b, b < 0 → a ≠ b → (TJ2 a).2.1 ≠ (TJ2 b).2.1 := by decide +kernel
theorem tyJ2_ok : ∀ k, k < 0 → parseFieldDescriptor (TJ2 k).2.2.1 = some (tyJ2 k) := by decide +kernel
abbrev cJ2_getChar_3b067 : ByteArray := prog_24_method_5_code
def yJ2_getChar_3b067 : MethodName := ⟨RJ2, "getChar", "([BI)C"⟩
abbrev cJ2_length_9d52b : ByteArray := prog_24_method_6_code
def yJ2_length_9d52b : MethodName := ⟨RJ2, "length", "([B)I"⟩
abbrev cJ2_indexOf_4cfef : ByteArray := prog_24_method_40_code
def yJ2_indexOf_4cfef : MethodName := ⟨RJ2, "indexOf", "([BIII)I"⟩
abbrev cJ2_indexOfChar_4cfef : ByteArray := prog_24_method_47_code
def yJ2_indexOfChar_4cfef : MethodName := ⟨RJ2, "indexOfChar", "([BIII)I"⟩
abbrev cJ2_indexOfCharUnsafe_4cfef : ByteArray := prog_24_method_48_code
def yJ2_indexOfCharUnsafe_4cfef : MethodName := ⟨RJ2, "indexOfCharUnsafe", "([BIII)I"⟩
abbrev cJ2_indexOfSupplementary_4cfef : ByteArray := prog_24_method_49_code
def yJ2_indexOfSupplementary_4cfef : MethodName := ⟨RJ2, "indexOfSupplementary", "([BIII)I"⟩
abbrev cJ2_charAt_3b067 : ByteArray := prog_24_method_83_code
def yJ2_charAt_3b067 : MethodName := ⟨RJ2, "charAt", "([BI)C"⟩
abbrev cJ2_checkIndex_2214a : ByteArray := prog_24_method_91_code
def yJ2_checkIndex_2214a : MethodName := ⟨RJ2, "checkIndex", "(I[B)V"⟩
abbrev cJ2_checkBoundsBeginEnd_d044e : ByteArray := prog_24_method_93_code
def yJ2_checkBoundsBeginEnd_d044e : MethodName := ⟨RJ2, "checkBoundsBeginEnd", "(II[B)V"⟩
def RJ10 : String := "java/lang/System"
def TJ10 : u_T := fun k => match k with
  | _ => ("", "", "", false)
def tyJ10 : Nat → FieldType := fun k => match k with
  | _ => .int
abbrev wsJ100 : List Cond := u_ws RJ10 TJ10 0
theorem nmJ10 : ∀ a, a < 0 → ∀ b, b < 0 → a ≠ b → (TJ10 a).2.1 ≠ (TJ10 b).2.1 := by decide +kernel
theorem tyJ10_ok : ∀ k, k < 0 → parseFieldDescriptor (TJ10 k).2.2.1 = some (tyJ10 k) := by decide +kernel
def RJxfd54e : String := "java/lang/constant/Constable"
def TJxfd54e : u_T := fun k => match k with
  | _ => ("", "", "", false)
def tyJxfd54e : Nat → FieldType := fun k => match k with
  | _ => .int
abbrev wsJxfd54e0 : List Cond := u_ws RJxfd54e TJxfd54e 0
theorem nmJxfd54e : ∀ a, a < 0 → ∀ b, b < 0 → a ≠ b → (TJxfd54e a).2.1 ≠ (TJxfd54e b).2.1 := by decide +kernel
theorem tyJxfd54e_ok : ∀ k, k < 0 → parseFieldDescriptor (TJxfd54e k).2.2.1 = some (tyJxfd54e k) := by decide +kernel
def RJx3cf43 : String := "java/lang/constant/ConstantDesc"
def TJx3cf43 : u_T := fun k => match k with
  | _ => ("", "", "", false)
def tyJx3cf43 : Nat → FieldType := fun k => match k with
  | _ => .int
abbrev wsJx3cf430 : List Cond := u_ws RJx3cf43 TJx3cf43 0
theorem nmJx3cf43 : ∀ a, a < 0 → ∀ b, b < 0 → a ≠ b → (TJx3cf43 a).2.1 ≠ (TJx3cf43 b).2.1 := by decide +kernel
theorem tyJx3cf43_ok : ∀ k, k < 0 → parseFieldDescriptor (TJx3cf43 k).2.2.1 = some (tyJx3cf43 k) := by decide +kernel
def RJ3 : String := "jdk/internal/util/Preconditions"
def TJ3 : u_T := fun k => match k with
  | _ => ("", "", "", false)
def tyJ3 : Nat → FieldType := fun k => match k with
  | _ => .int
abbrev wsJ30 : List Cond := u_ws RJ3 TJ3 0
theorem nmJ3 : ∀ a, a < 0 → ∀ b, b < 0 → a ≠ b → (TJ3 a).2.1 ≠ (TJ3 b).2.1 := by decide +kernel
theorem tyJ3_ok : ∀ k, k < 0 → parseFieldDescriptor (TJ3 k).2.2.1 = some (tyJ3 k) := by decide +kernel
abbrev cJ3_checkIndex_8e157 : ByteArray := prog_30_method_11_code
def yJ3_checkIndex_8e157 : MethodName := ⟨RJ3, "checkIndex", "(IILjava/util/function/BiFunction;)I"⟩
abbrev cJ3_checkFromToIndex_8c36e : ByteArray := prog_30_method_12_code
def yJ3_checkFromToIndex_8c36e : MethodName := ⟨RJ3, "checkFromToIndex", "(IIILjava/util/function/BiFunction;)I"⟩
def RL : String := "UnimodularTablesLaw"
abbrev cL_entry : ByteArray := method_3_code
def yL_entry : MethodName := ⟨RL, "entry", "(LUnimodularTables;II[J)I"⟩
abbrev cL_law : ByteArray := code
def yL_law : MethodName := ⟨RL, "law", "([I)Z"⟩
abbrev vwCl : List vw_C := [(RX0, TX0, 1), (RX1, TX1, 6), (RX2, TX2, 3), (RX3, TX3, 3), (RX4, TX4, 5), (RX5, TX5, 7), (RX6, TX6, 8), (RX7, TX7, 3), (RX8, TX8, 2), (RX9, TX9, 5), (RX10, TX10, 19), (RX11, TX11, 35)]

/-- the words that a callee may take over, and the nest links -/
def lw_gl : List Cond := lw_tbl.filter goodWord
def is_nest : Cond → Bool
  | .fieldLinkNest _ _ _ _ _ _ => true
  | .methodLinkNest _ _ _ _ => true
  | _ => false
def lw_nl : List Cond := lw_tbl.filter is_nest
theorem gm {w : Cond} (n : Nat) (h : lw_tbl[n]? = some w) (hg : goodWord w = true) : w ∈ lw_gl := List.mem_filter.mpr ⟨List.mem_of_getElem? h, hg⟩
theorem nmm {w : Cond} (n : Nat) (h : lw_tbl[n]? = some w) (hg : is_nest w = true) : w ∈ lw_nl := List.mem_filter.mpr ⟨List.mem_of_getElem? h, hg⟩
abbrev mi : Type := MethodName × ByteArray × Nat × Option FieldType
/-- a class's layout, its fields' types and names -/
def CF (C : String) (T : u_T) (N : Nat) : Prop := (∀ w ∈ u_ws C T N, w ∈ lw_gl) ∧ (∃ ty : Nat → FieldType, ∀ k, k < N → parseFieldDescriptor (T k).2.2.1 = some (ty k)) ∧ ∀ a, a < N → ∀ b, b < N → a ≠ b → (T a).2.1 ≠ (T b).2.1
/-- a field's link: own class and pool index; the class by its number, the field by its place, final or not, its type -/
def FL (own : String) (idx ci k : Nat) (fin : Bool) (ty : FieldType) : Prop := ∃ (C : String) (T : u_T) (N : Nat), vwCl[ci]? = some (C, T, N) ∧ CF C T N ∧ k < N ∧ (T k).2.2.2 = fin ∧ parseFieldDescriptor (T k).2.2.1 = some ty ∧
  ((Cond.fieldLink own idx (T k).1 (T k).2.1 (T k).2.2.1 ∈ lw_gl ∧ (T k).1 = own) ∨ ∃ host : String, Cond.fieldLinkNest own idx (T k).1 (T k).2.1 (T k).2.2.1 host ∈ lw_nl)
def MI (m : mi) : Prop := plainName m.1.cls = true ∧ Cond.code m.1 m.2.1 m.2.2.1 m.2.2.2 ∈ lw_gl ∧ Cond.initialized m.1.cls ∈ lw_gl ∧ (m.1.cls ≠ "java/lang/invoke/MethodHandle" ∧ m.1.cls ≠ "java/lang/invoke/VarHandle") ∧ m.2.2.1 ≤ 40
def MV (m : mi) (n : Nat) : Prop := MI m ∧ Cond.instanceMethod m.1 ∈ lw_gl ∧ Cond.selects m.1.cls m.1 m.1 ∈ lw_gl ∧ (parseMethodDescriptor m.1.desc).map (fun d => d.parameters.length) = some n
def MS (m : mi) (n : Nat) : Prop := MI m ∧ Cond.static m.1 ∈ lw_gl ∧ (parseMethodDescriptor m.1.desc).map (fun d => d.parameters.length) = some n
def MN (m : mi) (n : Nat) : Prop := MI m ∧ m.1.name = "<init>" ∧ m.2.2.2 = none ∧ Cond.instanceMethod m.1 ∈ lw_gl ∧ (parseMethodDescriptor m.1.desc).map (fun d => d.parameters.length) = some n
def ML (own : String) (idx : Nat) (m : mi) : Prop := Cond.methodLink own idx m.1 ∈ lw_gl ∨ ∃ host : String, Cond.methodLinkNest own idx m.1 host ∈ lw_nl
end
section
/-! ===== the judgement: a method's frame over a world of numbered cells ===== -/
abbrev aE : Type := (Nat × vp_A) ⊕ (Nat × List Value)
abbrev aW : Type := Nat × (Nat → Option aE)
/-- classes, array classes, the places of the numbered cells, the heap at the law's start -/
abbrev aV : Type := va_G × (Nat → ClassId) × (Nat → Nat) × Heap
def rl (r : Nat → Nat) (v : Value) : Value := match v with
  | .ref a => .ref (r a)
  | u => u
def rA (r : Nat → Nat) (a : vp_A) : vp_A := (a.1, match a.2 with
  | .inl f => .inl f
  | .inr (.inl f) => .inr (.inl f)
  | .inr (.inr (.inl f)) => .inr (.inr (.inl f))
  | .inr (.inr (.inr (.inl f))) => .inr (.inr (.inr (.inl f)))
  | .inr (.inr (.inr (.inr f))) => .inr (.inr (.inr (.inr (fun j => (f j).map r)))))
def cE (V : aV) (c : aE) : va_E := match c with
  | .inl a => .inl (V.2.1 a.1, rA V.2.2.1 a.2)
  | .inr o => .inr (o.1, o.2.map (rl V.2.2.1))
def tys (V : aV) : List (ClassId × FieldType) := [(V.2.1 0, .int), (V.2.1 1, .byte), (V.2.1 2, .long), (V.2.1 3, .object RX7), (V.2.1 4, .object RX4)]
def HW (V : aV) (w : aW) (H : Heap) : Prop := H.size = V.2.2.1 w.1 ∧ 16 ≤ w.1 ∧ (∀ q, q < V.2.2.2.size → H[q]? = V.2.2.2[q]?) ∧ ∀ i c, w.2 i = some c → i < w.1 ∧ va_at V.1 vwCl (V.2.2.1 i, cE V c) H
def VOK (V : aV) : Prop := (∀ n, V.2.2.1 (16 + n) = V.2.2.2.size + n) ∧ ∀ i, i < 16 → V.2.2.1 i < V.2.2.2.size
/-- the String constants: whose, where, the text, its bytes -/
def kst : List (String × Nat × String × List Int32) := [
  (RX4, 51, "rcxypte", [114, 99, 120, 121, 112, 116, 101]),
  (RX10, 240, "+-00-/-+-00/0-+-0/00-+-/-00-+", [43, 45, 48, 48, 45, 47, 45, 43, 45, 48, 48, 47, 48, 45, 43, 45, 48, 47, 48, 48, 45, 43, 45, 47, 45, 48, 48, 45, 43]),
  (RX10, 246, "+++++/+++00/+0++0/+00++/++00+", [43, 43, 43, 43, 43, 47, 43, 43, 43, 48, 48, 47, 43, 48, 43, 43, 48, 47, 43, 48, 48, 43, 43, 47, 43, 43, 48, 48, 43]),
  (RX11, 116, "-0+", [45, 48, 43]),
  (RX11, 131, "rcxypte", [114, 99, 120, 121, 112, 116, 101]),
  (RX11, 300, "+-00--+-000-+-000-+--00-+", [43, 45, 48, 48, 45, 45, 43, 45, 48, 48, 48, 45, 43, 45, 48, 48, 48, 45, 43, 45, 45, 48, 48, 45, 43]),
  (RX11, 302, "++++++++00+0++0+00++++00+", [43, 43, 43, 43, 43, 43, 43, 43, 48, 48, 43, 48, 43, 43, 48, 43, 48, 48, 43, 43, 43, 43, 48, 48, 43])]
def fr (V : aV) : Nat → Prop := fun q => V.2.2.2.size ≤ q
def KY (V : aV) (s : State) : Prop := (∀ i, i < 7 → ∀ k, kst[i]? = some k → vk_R k.1 k.2.1 k.2.2.1 (V.2.2.1 (2 + i)) s ∧ ∃ av : Nat, vk_S 1 [k.2.2.2.length] [k.2.2.2] (fun _ => V.2.2.1 (2 + i)) (fun _ => av) (fr V) s V.2.2.2) ∧
  va_Z RX4 "SIGNS" "[I" (.ref (V.2.2.1 1)) (fr V) s V.2.2.2 ∧ va_T .int (V.2.2.1 1) 7 (fun j => .int (([2, 2, 3, 3, 3, 1, 4] : List Int32).getD j 0)) (fr V) s V.2.2.2 ∧ va_Z "java/lang/String" "COMPACT_STRINGS" "Z" (.int 1) (fr V) s V.2.2.2 ∧ va_Zq "jdk/internal/util/Preconditions" "SIOOBE_FORMATTER" "Ljava/util/function/BiFunction;" (fr V) s V.2.2.2
def KX (V : aV) (s : State) : Prop := va_K V.1 vwCl (tys V) s ∧ (∀ w ∈ lw_nl, va_Nw w s) ∧ KY V s
theorem is_nest_warm {w : Cond} (hw : is_nest w = true) {s U : State} (hW : s.WarmedH U.vm) (h : va_Nw w s) : va_Nw w U := by
  cases w <;> first | exact h.warmF hW | exact h.warmM hW | (exfalso; exact Bool.noConfusion hw)
theorem is_nest_same {w : Cond} (hw : is_nest w = true) {s U : State} (hW : s.vm = U.vm) (h : va_Nw w s) : va_Nw w U := by
  cases w <;> first | exact va_Nw.same rfl hW h | (exfalso; exact Bool.noConfusion hw)
theorem va_Zq.mv {C n d : String} {A : Nat → Prop} {u U : State} {H : Heap} (hvm : u.vm.Alike U.vm) (h : va_Zq C n d A u H) : va_Zq C n d A U H := h.elim (fun h => Or.inl (va_Z.moved hvm h)) (fun ⟨t, h⟩ => Or.inr ⟨t, va_Z.moved hvm h⟩)
theorem KY.moved {V : aV} {s U : State} (hW : s.WarmedH U.vm) (h : KY V s) : KY V U := by
  obtain ⟨h1, h2, h3, h4, h5⟩ := h
  refine ⟨fun i hi k hk => ?_, va_Z.moved hW.alike h2, va_T.moved hW.alike h3, va_Z.moved hW.alike h4, va_Zq.mv hW.alike h5⟩
  obtain ⟨a, av, b⟩ := h1 i hi k hk
  exact ⟨a.warm hW, av, b.moved hW.alike⟩
theorem KY.same {V : aV} {s U : State} (hW : s.vm = U.vm) (h : KY V s) : KY V U := by
  have al : s.vm.Alike U.vm := by rw [hW]; exact Vm.Alike.refl _
  obtain ⟨h1, h2, h3, h4, h5⟩ := h
  refine ⟨fun i hi k hk => ?_, va_Z.moved al h2, va_T.moved al h3, va_Z.moved al h4, va_Zq.mv al h5⟩
  obtain ⟨a, av, b⟩ := h1 i hi k hk
  exact ⟨a.same hW.symm, av, b.moved al⟩
theorem KX.moved {V : aV} {s U : State} (hW : s.WarmedH U.vm) (h : KX V s) : KX V U := ⟨va_K.moved hW.alike h.1, fun w hw => is_nest_warm (List.mem_filter.mp hw).2 hW (h.2.1 w hw), h.2.2.moved hW⟩
theorem KX.same {V : aV} {s U : State} (hW : s.vm = U.vm) (h : KX V s) : KX V U := ⟨va_K.moved (by rw [hW]; exact Vm.Alike.refl _) h.1, fun w hw => is_nest_same (List.mem_filter.mp hw).2 hW (h.2.1 w hw), h.2.2.same hW⟩
def aPc (V : aV) (as : List Value) (w : aW) : Array Value → State → Prop := fun v U => v = (as.map (rl V.2.2.1)).toArray ∧ HW V w U.heap ∧ KX V U
def aQc (V : aV) (Q : Option Value → aW → Prop) : Array Value → State → Outcome → State → Prop := fun _ _ o t => ∃ (r : Option Value) (w : aW), o = .returned (r.map (rl V.2.2.1)) ∧ Q r w ∧ HW V w t.heap
def wsOf (m : mi) : List Cond := .code m.1 m.2.1 m.2.2.1 m.2.2.2 :: lw_gl
def rmD (d mc ms : Nat) : Room := { frames := d, cells := mc, slots := ms, locals := 60 * d + 60 }
/-- a method's contract: depth, cells and slots that it makes; arguments, world; what holds behind it -/
def Mt (m : mi) (d mc ms : Nat) (as : List Value) (w : aW) (Q : Option Value → aW → Prop) : Prop := ∀ (l : Launch) (V : aV), VOK V → Met l m.1 (wsOf m) (rmD d mc ms) (aPc V as w) (aQc V Q) mc ms (fr V)
/-- all that stays while a method runs -/
abbrev aX : Type := Program × Launch × Env × Room × State × MethodId × Array Value × List Frame × Method × Code × (State → Prop) × aV
def lvl (r : Nat → Nat) : Nat → List (Option Value) → List (Nat × Value)
  | _, [] => []
  | i, none :: t => lvl r (i + 1) t
  | i, some v :: t => (i, rl r v) :: lvl r (i + 1) t
def Cx (m : mi) (X : aX) : Prop := match X with
  | (p, _, _, _, s, mm, args, _, meth, c, _, V) => VOK V ∧ p.tables.exec = Jvm.exec ∧ c.code = m.2.1 ∧ c.maxLocals = m.2.2.1 ∧ meth.sig.returnType = m.2.2.2 ∧ meth.locks = false ∧ s.vm.findClass m.1.cls = some mm.cls ∧ (∀ w ∈ wsOf m, w.before args s = true) ∧ KX V s ∧ meth.name = m.1.name
def Rd (X : aX) (d mc ms : Nat) : Prop := match X with
  | (_, _, _, R, _, _, _, _, _, _, _, _) => d ≤ R.frames ∧ 60 * d + 60 ≤ R.locals ∧ mc ≤ R.cells ∧ ms ≤ R.slots
def Rt (X : aX) (mc ms : Nat) (Q : Option Value → aW → Prop) : Prop := match X with
  | (_, _, _, _, s, _, args, below, _, _, Z, V) => Z = MQ below (aQc V Q) args s mc ms (fr V)
/-- from pc, with these locals, this stack, this world, so many cells and slots made: the method comes to its end -/
def Rw (m : mi) (X : aX) (pc : Nat) (ls : List (Option Value)) (st : List Value) (w : aW) (cells slots : Nat) : Prop := match X with
  | (p, l, e, R, s, mm, args, below, meth, c, Z, V) => ∀ (H : Heap) (locs : List Loc) (la : Array Slot), HW V w H → (∀ q ∈ locs, fr V q.base) → lv_has la m.2.2.1 (lvl V.2.2.1 0 ls) → W p l e R s mm args below meth c H locs cells slots Z (F0 mm pc la (st.map (rl V.2.2.1)))
theorem lvl_mem {r : Nat → Nat} : ∀ (ls : List (Option Value)) (i j : Nat) (v : Value), (j, v) ∈ lvl r i ls ↔ ∃ (k : Nat) (u : Value), j = i + k ∧ ls[k]? = some (some u) ∧ v = rl r u
  | [], i, j, v => by simp [lvl]
  | none :: t, i, j, v => by
    rw [lvl, lvl_mem t (i + 1) j v]
    constructor
    · rintro ⟨k, u, rfl, h, e⟩
      exact ⟨k + 1, u, by omega, by simpa using h, e⟩
    · rintro ⟨k, u, rfl, h, e⟩
      cases k with
      | zero => simp at h
      | succ k => exact ⟨k, u, by omega, by simpa using h, e⟩
  | some x :: t, i, j, v => by
    rw [lvl, List.mem_cons, lvl_mem t (i + 1) j v]
    constructor
    · rintro (h | ⟨k, u, rfl, h, e⟩)
      · obtain ⟨rfl, rfl⟩ := Prod.mk.inj h
        exact ⟨0, x, by omega, rfl, rfl⟩
      · exact ⟨k + 1, u, by omega, by simpa using h, e⟩
    · rintro ⟨k, u, rfl, h, e⟩
      cases k with
      | zero =>
        have hx : x = u := by simpa using h
        subst hx
        exact Or.inl (by rw [e]; rfl)
      | succ k => exact Or.inr ⟨k, u, by omega, by simpa using h, e⟩
theorem lvl_get {r : Nat → Nat} {la : Array Slot} {n i : Nat} {ls : List (Option Value)} {u : Value} (h : lv_has la n (lvl r 0 ls)) (hu : ls[i]? = some (some u)) : la[i]? = some (.val (rl r u)) :=
  h.2.2 (i, rl r u) ((lvl_mem ls 0 i _).mpr ⟨i, u, by omega, hu, rfl⟩)
theorem rl_cat (r : Nat → Nat) (v : Value) : (rl r v).category = v.category := by cases v <;> rfl
/-- no wide value lies just ahead of place i -/
def noL (ls : List (Option Value)) (i : Nat) : Bool := match i with
  | 0 => true
  | j + 1 => match ls[j]? with
    | some (some u) => u.category == 1
    | _ => true
theorem lvl_set {r : Nat → Nat} {la : Array Slot} {n i : Nat} {ls : List (Option Value)} {u : Value} (hn : noL ls i = true) (h : lv_has la n ((i, rl r u) :: (lvl r 0 ls).filter (fun q => !(q.1 == i) && !(q.1 + 1 == i && q.2.category == 2)))) : lv_has la n (lvl r 0 (ls.set i (some u))) := by
  refine ⟨h.1, h.2.1, fun q hq => h.2.2 q ?_⟩
  obtain ⟨j, v⟩ := q
  obtain ⟨k, x, e1, e2, e3⟩ := (lvl_mem _ 0 j v).mp hq
  have e1 : k = j := by omega
  subst e1
  by_cases hk : k = i
  · subst hk
    have hx : x = u := by
      rw [List.getElem?_set] at e2
      split at e2
      · split at e2
        · simpa using e2.symm
        · simp at e2
      · rename_i hne; exact absurd rfl hne
    rw [e3, hx]
    exact List.mem_cons_self
  · rw [List.getElem?_set_ne (Ne.symm hk)] at e2
    refine List.mem_cons_of_mem _ (List.mem_filter.mpr ⟨(lvl_mem _ 0 k v).mpr ⟨k, x, by omega, e2, e3⟩, ?_⟩)
    have h1 : (k == i) = false := by simpa using hk
    simp only [h1, Bool.not_false, Bool.true_and]
    by_cases h2 : k + 1 = i
    · subst h2
      have h3 : (x.category == 1) = true := by
        have := hn
        simp only [noL, e2] at this
        exact this
      rw [e3, rl_cat]
      have h4 : x.category = 1 := by simpa using h3
      rw [h4]
      simp
    · have : (k + 1 == i) = false := by simpa using h2
      simp [this]
end
section
section RULES
variable {m : mi} {X : aX} {pc : Nat} {ls : List (Option Value)} {st : List Value} {w : aW} {cl sl : Nat}
theorem R_iconst (hC : Cx m X) {n : Int} {v : Int32} (hd : decode m.2.1 pc = .ok (.iconst n, 1)) (hv : Int32.ofInt n = v)
    (k : Rw m X (pc + 1) ls (.int v :: st) w cl sl) : Rw m X pc ls (st) w cl sl := by
  obtain ⟨p, l, e, R, s, mm, args, below, meth, c, Z, V⟩ := X
  obtain ⟨hV, hx, hb, hml, hr, hlk, hown, hts, hK, hnm⟩ := hC
  intro H locs la hH hL hl
  exact lv_iconst hx hb hd hv (k H locs la hH hL hl)
theorem R_bipush (hC : Cx m X) {n : Int} {v : Int32} (hd : decode m.2.1 pc = .ok (.bipush n, 2)) (hv : (Int8.ofInt n).toInt32 = v)
    (k : Rw m X (pc + 2) ls (.int v :: st) w cl sl) : Rw m X pc ls (st) w cl sl := by
  obtain ⟨p, l, e, R, s, mm, args, below, meth, c, Z, V⟩ := X
  obtain ⟨hV, hx, hb, hml, hr, hlk, hown, hts, hK, hnm⟩ := hC
  intro H locs la hH hL hl
  exact lv_bipush hx hb hd hv (k H locs la hH hL hl)
theorem R_sipush (hC : Cx m X) {n : Int} {v : Int32} (hd : decode m.2.1 pc = .ok (.sipush n, 3)) (hv : (Int16.ofInt n).toInt32 = v)
    (k : Rw m X (pc + 3) ls (.int v :: st) w cl sl) : Rw m X pc ls (st) w cl sl := by
  obtain ⟨p, l, e, R, s, mm, args, below, meth, c, Z, V⟩ := X
  obtain ⟨hV, hx, hb, hml, hr, hlk, hown, hts, hK, hnm⟩ := hC
  intro H locs la hH hL hl
  exact lv_sipush hx hb hd hv (k H locs la hH hL hl)
theorem R_lconst (hC : Cx m X) {n : Fin 2} {v : Int64} (hd : decode m.2.1 pc = .ok (.lconst n, 1)) (hv : Int64.ofNat (n : Nat) = v)
    (k : Rw m X (pc + 1) ls (.long v :: st) w cl sl) : Rw m X pc ls (st) w cl sl := by
  obtain ⟨p, l, e, R, s, mm, args, below, meth, c, Z, V⟩ := X
  obtain ⟨hV, hx, hb, hml, hr, hlk, hown, hts, hK, hnm⟩ := hC
  intro H locs la hH hL hl
  exact lv_lconst hx hb hd hv (k H locs la hH hL hl)
theorem R_iload_n (hC : Cx m X) {j : Fin 4} {i : Nat} {x : Int32} (hd : decode m.2.1 pc = .ok (.iload_n j, 1)) (hi : (j : Nat) = i) (hu : ls[i]? = some (some (.int x)))
    (k : Rw m X (pc + 1) ls (.int x :: st) w cl sl) : Rw m X pc ls (st) w cl sl := by
  obtain ⟨p, l, e, R, s, mm, args, below, meth, c, Z, V⟩ := X
  obtain ⟨hV, hx, hb, hml, hr, hlk, hown, hts, hK, hnm⟩ := hC
  intro H locs la hH hL hl
  exact lv_iload_n hx hb hd hi (lvl_get hl hu) (k H locs la hH hL hl)
theorem R_iload (hC : Cx m X) {i : Nat} {x : Int32} (hd : decode m.2.1 pc = .ok (.iload i, 2)) (hu : ls[i]? = some (some (.int x)))
    (k : Rw m X (pc + 2) ls (.int x :: st) w cl sl) : Rw m X pc ls (st) w cl sl := by
  obtain ⟨p, l, e, R, s, mm, args, below, meth, c, Z, V⟩ := X
  obtain ⟨hV, hx, hb, hml, hr, hlk, hown, hts, hK, hnm⟩ := hC
  intro H locs la hH hL hl
  exact lv_iload hx hb hd (lvl_get hl hu) (k H locs la hH hL hl)
theorem R_lload_n (hC : Cx m X) {j : Fin 4} {i : Nat} {x : Int64} (hd : decode m.2.1 pc = .ok (.lload_n j, 1)) (hi : (j : Nat) = i) (hu : ls[i]? = some (some (.long x)))
    (k : Rw m X (pc + 1) ls (.long x :: st) w cl sl) : Rw m X pc ls (st) w cl sl := by
  obtain ⟨p, l, e, R, s, mm, args, below, meth, c, Z, V⟩ := X
  obtain ⟨hV, hx, hb, hml, hr, hlk, hown, hts, hK, hnm⟩ := hC
  intro H locs la hH hL hl
  exact lv_lload_n hx hb hd hi (lvl_get hl hu) (k H locs la hH hL hl)
theorem R_lload (hC : Cx m X) {i : Nat} {x : Int64} (hd : decode m.2.1 pc = .ok (.lload i, 2)) (hu : ls[i]? = some (some (.long x)))
    (k : Rw m X (pc + 2) ls (.long x :: st) w cl sl) : Rw m X pc ls (st) w cl sl := by
  obtain ⟨p, l, e, R, s, mm, args, below, meth, c, Z, V⟩ := X
  obtain ⟨hV, hx, hb, hml, hr, hlk, hown, hts, hK, hnm⟩ := hC
  intro H locs la hH hL hl
  exact lv_lload hx hb hd (lvl_get hl hu) (k H locs la hH hL hl)
theorem R_aload_n (hC : Cx m X) {j : Fin 4} {i : Nat} {x : Nat} (hd : decode m.2.1 pc = .ok (.aload_n j, 1)) (hi : (j : Nat) = i) (hu : ls[i]? = some (some (.ref x)))
    (k : Rw m X (pc + 1) ls (.ref x :: st) w cl sl) : Rw m X pc ls (st) w cl sl := by
  obtain ⟨p, l, e, R, s, mm, args, below, meth, c, Z, V⟩ := X
  obtain ⟨hV, hx, hb, hml, hr, hlk, hown, hts, hK, hnm⟩ := hC
  intro H locs la hH hL hl
  exact lv_aload_n hx hb hd hi (lvl_get hl hu) (k H locs la hH hL hl)
theorem R_aload (hC : Cx m X) {i : Nat} {x : Nat} (hd : decode m.2.1 pc = .ok (.aload i, 2)) (hu : ls[i]? = some (some (.ref x)))
    (k : Rw m X (pc + 2) ls (.ref x :: st) w cl sl) : Rw m X pc ls (st) w cl sl := by
  obtain ⟨p, l, e, R, s, mm, args, below, meth, c, Z, V⟩ := X
  obtain ⟨hV, hx, hb, hml, hr, hlk, hown, hts, hK, hnm⟩ := hC
  intro H locs la hH hL hl
  exact lv_aload hx hb hd (lvl_get hl hu) (k H locs la hH hL hl)
theorem R_istore_n (hC : Cx m X) {j : Fin 4} {i : Nat} {x : Int32} (hd : decode m.2.1 pc = .ok (.istore_n j, 1)) (hi : (j : Nat) = i) (hn : i < m.2.2.1) (hq : noL ls i = true)
    (k : Rw m X (pc + 1) (ls.set i (some (.int x))) (st) w cl sl) : Rw m X pc ls (.int x :: st) w cl sl := by
  obtain ⟨p, l, e, R, s, mm, args, below, meth, c, Z, V⟩ := X
  obtain ⟨hV, hx, hb, hml, hr, hlk, hown, hts, hK, hnm⟩ := hC
  intro H locs la hH hL hl
  exact lv_istore_n hx hb hd hi hl hn rfl (fun la2 h2 => k H locs la2 hH hL (lvl_set hq h2))
theorem R_istore (hC : Cx m X) {i : Nat} {x : Int32} (hd : decode m.2.1 pc = .ok (.istore i, 2)) (hn : i < m.2.2.1) (hq : noL ls i = true)
    (k : Rw m X (pc + 2) (ls.set i (some (.int x))) (st) w cl sl) : Rw m X pc ls (.int x :: st) w cl sl := by
  obtain ⟨p, l, e, R, s, mm, args, below, meth, c, Z, V⟩ := X
  obtain ⟨hV, hx, hb, hml, hr, hlk, hown, hts, hK, hnm⟩ := hC
  intro H locs la hH hL hl
  exact lv_istore hx hb hd hl hn rfl (fun la2 h2 => k H locs la2 hH hL (lvl_set hq h2))
theorem R_astore_n (hC : Cx m X) {j : Fin 4} {i : Nat} {x : Nat} (hd : decode m.2.1 pc = .ok (.astore_n j, 1)) (hi : (j : Nat) = i) (hn : i < m.2.2.1) (hq : noL ls i = true)
    (k : Rw m X (pc + 1) (ls.set i (some (.ref x))) (st) w cl sl) : Rw m X pc ls (.ref x :: st) w cl sl := by
  obtain ⟨p, l, e, R, s, mm, args, below, meth, c, Z, V⟩ := X
  obtain ⟨hV, hx, hb, hml, hr, hlk, hown, hts, hK, hnm⟩ := hC
  intro H locs la hH hL hl
  exact lv_astore_n hx hb hd hi hl hn rfl (fun la2 h2 => k H locs la2 hH hL (lvl_set hq h2))
theorem R_astore (hC : Cx m X) {i : Nat} {x : Nat} (hd : decode m.2.1 pc = .ok (.astore i, 2)) (hn : i < m.2.2.1) (hq : noL ls i = true)
    (k : Rw m X (pc + 2) (ls.set i (some (.ref x))) (st) w cl sl) : Rw m X pc ls (.ref x :: st) w cl sl := by
  obtain ⟨p, l, e, R, s, mm, args, below, meth, c, Z, V⟩ := X
  obtain ⟨hV, hx, hb, hml, hr, hlk, hown, hts, hK, hnm⟩ := hC
  intro H locs la hH hL hl
  exact lv_astore hx hb hd hl hn rfl (fun la2 h2 => k H locs la2 hH hL (lvl_set hq h2))
theorem R_iinc (hC : Cx m X) {i : Nat} {n : Int} {x v : Int32} (hd : decode m.2.1 pc = .ok (.iinc i n, 3)) (hu : ls[i]? = some (some (.int x))) (hv : x + Int32.ofInt n = v) (hn : i < m.2.2.1) (hq : noL ls i = true)
    (k : Rw m X (pc + 3) (ls.set i (some (.int v))) (st) w cl sl) : Rw m X pc ls (st) w cl sl := by
  obtain ⟨p, l, e, R, s, mm, args, below, meth, c, Z, V⟩ := X
  obtain ⟨hV, hx, hb, hml, hr, hlk, hown, hts, hK, hnm⟩ := hC
  intro H locs la hH hL hl
  obtain ⟨k0, hk0⟩ := List.getElem?_of_mem ((lvl_mem ls 0 i (.int x)).mpr ⟨i, .int x, by omega, hu, rfl⟩)
  exact lv_iinc hx hb hd hl hk0 hv hn rfl (fun la2 h2 => k H locs la2 hH hL (lvl_set (u := .int v) hq h2))
theorem R_iadd (hC : Cx m X) {x y : Int32} (hd : decode m.2.1 pc = .ok (.iadd, 1))
    (k : Rw m X (pc + 1) ls (.int (x + y) :: st) w cl sl) : Rw m X pc ls (.int y :: .int x :: st) w cl sl := by
  obtain ⟨p, l, e, R, s, mm, args, below, meth, c, Z, V⟩ := X
  obtain ⟨hV, hx, hb, hml, hr, hlk, hown, hts, hK, hnm⟩ := hC
  intro H locs la hH hL hl
  exact lv_iadd hx hb hd (k H locs la hH hL hl)
theorem R_isub (hC : Cx m X) {x y : Int32} (hd : decode m.2.1 pc = .ok (.isub, 1))
    (k : Rw m X (pc + 1) ls (.int (x - y) :: st) w cl sl) : Rw m X pc ls (.int y :: .int x :: st) w cl sl := by
  obtain ⟨p, l, e, R, s, mm, args, below, meth, c, Z, V⟩ := X
  obtain ⟨hV, hx, hb, hml, hr, hlk, hown, hts, hK, hnm⟩ := hC
  intro H locs la hH hL hl
  exact lv_isub hx hb hd (k H locs la hH hL hl)
theorem R_imul (hC : Cx m X) {x y : Int32} (hd : decode m.2.1 pc = .ok (.imul, 1))
    (k : Rw m X (pc + 1) ls (.int (x * y) :: st) w cl sl) : Rw m X pc ls (.int y :: .int x :: st) w cl sl := by
  obtain ⟨p, l, e, R, s, mm, args, below, meth, c, Z, V⟩ := X
  obtain ⟨hV, hx, hb, hml, hr, hlk, hown, hts, hK, hnm⟩ := hC
  intro H locs la hH hL hl
  exact lv_imul hx hb hd (k H locs la hH hL hl)
theorem R_iand (hC : Cx m X) {x y : Int32} (hd : decode m.2.1 pc = .ok (.iand, 1))
    (k : Rw m X (pc + 1) ls (.int (x &&& y) :: st) w cl sl) : Rw m X pc ls (.int y :: .int x :: st) w cl sl := by
  obtain ⟨p, l, e, R, s, mm, args, below, meth, c, Z, V⟩ := X
  obtain ⟨hV, hx, hb, hml, hr, hlk, hown, hts, hK, hnm⟩ := hC
  intro H locs la hH hL hl
  exact lv_iand hx hb hd (k H locs la hH hL hl)
theorem R_ior (hC : Cx m X) {x y : Int32} (hd : decode m.2.1 pc = .ok (.ior, 1))
    (k : Rw m X (pc + 1) ls (.int (x ||| y) :: st) w cl sl) : Rw m X pc ls (.int y :: .int x :: st) w cl sl := by
  obtain ⟨p, l, e, R, s, mm, args, below, meth, c, Z, V⟩ := X
  obtain ⟨hV, hx, hb, hml, hr, hlk, hown, hts, hK, hnm⟩ := hC
  intro H locs la hH hL hl
  exact lv_ior hx hb hd (k H locs la hH hL hl)
theorem R_ixor (hC : Cx m X) {x y : Int32} (hd : decode m.2.1 pc = .ok (.ixor, 1))
    (k : Rw m X (pc + 1) ls (.int (x ^^^ y) :: st) w cl sl) : Rw m X pc ls (.int y :: .int x :: st) w cl sl := by
  obtain ⟨p, l, e, R, s, mm, args, below, meth, c, Z, V⟩ := X
  obtain ⟨hV, hx, hb, hml, hr, hlk, hown, hts, hK, hnm⟩ := hC
  intro H locs la hH hL hl
  exact lv_ixor hx hb hd (k H locs la hH hL hl)
theorem R_ishl (hC : Cx m X) {x y : Int32} (hd : decode m.2.1 pc = .ok (.ishl, 1))
    (k : Rw m X (pc + 1) ls (.int (x <<< (y &&& 31)) :: st) w cl sl) : Rw m X pc ls (.int y :: .int x :: st) w cl sl := by
  obtain ⟨p, l, e, R, s, mm, args, below, meth, c, Z, V⟩ := X
  obtain ⟨hV, hx, hb, hml, hr, hlk, hown, hts, hK, hnm⟩ := hC
  intro H locs la hH hL hl
  exact lv_ishl hx hb hd (k H locs la hH hL hl)
theorem R_ishr (hC : Cx m X) {x y : Int32} (hd : decode m.2.1 pc = .ok (.ishr, 1))
    (k : Rw m X (pc + 1) ls (.int (x >>> (y &&& 31)) :: st) w cl sl) : Rw m X pc ls (.int y :: .int x :: st) w cl sl := by
  obtain ⟨p, l, e, R, s, mm, args, below, meth, c, Z, V⟩ := X
  obtain ⟨hV, hx, hb, hml, hr, hlk, hown, hts, hK, hnm⟩ := hC
  intro H locs la hH hL hl
  exact lv_ishr hx hb hd (k H locs la hH hL hl)
theorem R_idiv (hC : Cx m X) {x y : Int32} (hd : decode m.2.1 pc = .ok (.idiv, 1)) (hne : ¬ y = 0)
    (k : Rw m X (pc + 1) ls (.int (x / y) :: st) w cl sl) : Rw m X pc ls (.int y :: .int x :: st) w cl sl := by
  obtain ⟨p, l, e, R, s, mm, args, below, meth, c, Z, V⟩ := X
  obtain ⟨hV, hx, hb, hml, hr, hlk, hown, hts, hK, hnm⟩ := hC
  intro H locs la hH hL hl
  exact lv_idiv hx hb hd hne (k H locs la hH hL hl)
theorem R_irem (hC : Cx m X) {x y : Int32} (hd : decode m.2.1 pc = .ok (.irem, 1)) (hne : ¬ y = 0)
    (k : Rw m X (pc + 1) ls (.int (x - x / y * y) :: st) w cl sl) : Rw m X pc ls (.int y :: .int x :: st) w cl sl := by
  obtain ⟨p, l, e, R, s, mm, args, below, meth, c, Z, V⟩ := X
  obtain ⟨hV, hx, hb, hml, hr, hlk, hown, hts, hK, hnm⟩ := hC
  intro H locs la hH hL hl
  exact lv_irem hx hb hd hne (k H locs la hH hL hl)
theorem R_ineg (hC : Cx m X) {x : Int32} (hd : decode m.2.1 pc = .ok (.ineg, 1))
    (k : Rw m X (pc + 1) ls (.int (-x) :: st) w cl sl) : Rw m X pc ls (.int x :: st) w cl sl := by
  obtain ⟨p, l, e, R, s, mm, args, below, meth, c, Z, V⟩ := X
  obtain ⟨hV, hx, hb, hml, hr, hlk, hown, hts, hK, hnm⟩ := hC
  intro H locs la hH hL hl
  exact lv_ineg hx hb hd (k H locs la hH hL hl)
theorem R_iushr (hC : Cx m X) {x y : Int32} (hd : decode m.2.1 pc = .ok (.iushr, 1))
    (k : Rw m X (pc + 1) ls (.int ((x.toUInt32 >>> (y.toUInt32 &&& Int32.toUInt32 31)).toInt32) :: st) w cl sl) : Rw m X pc ls (.int y :: .int x :: st) w cl sl := by
  obtain ⟨p, l, e, R, s, mm, args, below, meth, c, Z, V⟩ := X
  obtain ⟨hV, hx, hb, hml, hr, hlk, hown, hts, hK, hnm⟩ := hC
  intro H locs la hH hL hl
  exact lv_iushr hx hb hd rfl (k H locs la hH hL hl)
theorem R_ladd (hC : Cx m X) {x y : Int64} (hd : decode m.2.1 pc = .ok (.ladd, 1))
    (k : Rw m X (pc + 1) ls (.long (x + y) :: st) w cl sl) : Rw m X pc ls (.long y :: .long x :: st) w cl sl := by
  obtain ⟨p, l, e, R, s, mm, args, below, meth, c, Z, V⟩ := X
  obtain ⟨hV, hx, hb, hml, hr, hlk, hown, hts, hK, hnm⟩ := hC
  intro H locs la hH hL hl
  exact lv_ladd hx hb hd (k H locs la hH hL hl)
theorem R_lmul (hC : Cx m X) {x y : Int64} (hd : decode m.2.1 pc = .ok (.lmul, 1))
    (k : Rw m X (pc + 1) ls (.long (x * y) :: st) w cl sl) : Rw m X pc ls (.long y :: .long x :: st) w cl sl := by
  obtain ⟨p, l, e, R, s, mm, args, below, meth, c, Z, V⟩ := X
  obtain ⟨hV, hx, hb, hml, hr, hlk, hown, hts, hK, hnm⟩ := hC
  intro H locs la hH hL hl
  exact lv_lmul hx hb hd (k H locs la hH hL hl)
theorem R_land (hC : Cx m X) {x y : Int64} (hd : decode m.2.1 pc = .ok (.land, 1))
    (k : Rw m X (pc + 1) ls (.long (x &&& y) :: st) w cl sl) : Rw m X pc ls (.long y :: .long x :: st) w cl sl := by
  obtain ⟨p, l, e, R, s, mm, args, below, meth, c, Z, V⟩ := X
  obtain ⟨hV, hx, hb, hml, hr, hlk, hown, hts, hK, hnm⟩ := hC
  intro H locs la hH hL hl
  exact lv_land hx hb hd (k H locs la hH hL hl)
theorem R_lor (hC : Cx m X) {x y : Int64} (hd : decode m.2.1 pc = .ok (.lor, 1))
    (k : Rw m X (pc + 1) ls (.long (x ||| y) :: st) w cl sl) : Rw m X pc ls (.long y :: .long x :: st) w cl sl := by
  obtain ⟨p, l, e, R, s, mm, args, below, meth, c, Z, V⟩ := X
  obtain ⟨hV, hx, hb, hml, hr, hlk, hown, hts, hK, hnm⟩ := hC
  intro H locs la hH hL hl
  exact lv_lor hx hb hd (k H locs la hH hL hl)
theorem R_lrem (hC : Cx m X) {x y : Int64} (hd : decode m.2.1 pc = .ok (.lrem, 1)) (hne : ¬ y = 0)
    (k : Rw m X (pc + 1) ls (.long (x - x / y * y) :: st) w cl sl) : Rw m X pc ls (.long y :: .long x :: st) w cl sl := by
  obtain ⟨p, l, e, R, s, mm, args, below, meth, c, Z, V⟩ := X
  obtain ⟨hV, hx, hb, hml, hr, hlk, hown, hts, hK, hnm⟩ := hC
  intro H locs la hH hL hl
  exact lv_lrem hx hb hd hne (k H locs la hH hL hl)
theorem R_lushr (hC : Cx m X) {x : Int64} {y : Int32} (hd : decode m.2.1 pc = .ok (.lushr, 1))
    (k : Rw m X (pc + 1) ls (.long ((x.toUInt64 >>> (y.toInt64.toUInt64 &&& Int64.toUInt64 63)).toInt64) :: st) w cl sl) : Rw m X pc ls (.int y :: .long x :: st) w cl sl := by
  obtain ⟨p, l, e, R, s, mm, args, below, meth, c, Z, V⟩ := X
  obtain ⟨hV, hx, hb, hml, hr, hlk, hown, hts, hK, hnm⟩ := hC
  intro H locs la hH hL hl
  exact lv_lushr hx hb hd rfl (k H locs la hH hL hl)
theorem R_lshl (hC : Cx m X) {x : Int64} {y : Int32} (hd : decode m.2.1 pc = .ok (.lshl, 1))
    (k : Rw m X (pc + 1) ls (.long (x <<< (y.toInt64 &&& 63)) :: st) w cl sl) : Rw m X pc ls (.int y :: .long x :: st) w cl sl := by
  obtain ⟨p, l, e, R, s, mm, args, below, meth, c, Z, V⟩ := X
  obtain ⟨hV, hx, hb, hml, hr, hlk, hown, hts, hK, hnm⟩ := hC
  intro H locs la hH hL hl
  exact lv_lshl hx hb hd rfl (k H locs la hH hL hl)
theorem R_i2l (hC : Cx m X) {x : Int32} (hd : decode m.2.1 pc = .ok (.i2l, 1))
    (k : Rw m X (pc + 1) ls (.long x.toInt64 :: st) w cl sl) : Rw m X pc ls (.int x :: st) w cl sl := by
  obtain ⟨p, l, e, R, s, mm, args, below, meth, c, Z, V⟩ := X
  obtain ⟨hV, hx, hb, hml, hr, hlk, hown, hts, hK, hnm⟩ := hC
  intro H locs la hH hL hl
  exact lv_i2l hx hb hd rfl (k H locs la hH hL hl)
theorem R_l2i (hC : Cx m X) {x : Int64} (hd : decode m.2.1 pc = .ok (.l2i, 1))
    (k : Rw m X (pc + 1) ls (.int x.toInt32 :: st) w cl sl) : Rw m X pc ls (.long x :: st) w cl sl := by
  obtain ⟨p, l, e, R, s, mm, args, below, meth, c, Z, V⟩ := X
  obtain ⟨hV, hx, hb, hml, hr, hlk, hown, hts, hK, hnm⟩ := hC
  intro H locs la hH hL hl
  exact lv_l2i hx hb hd rfl (k H locs la hH hL hl)
theorem R_i2b (hC : Cx m X) {x : Int32} (hd : decode m.2.1 pc = .ok (.i2b, 1))
    (k : Rw m X (pc + 1) ls (.int x.toInt8.toInt32 :: st) w cl sl) : Rw m X pc ls (.int x :: st) w cl sl := by
  obtain ⟨p, l, e, R, s, mm, args, below, meth, c, Z, V⟩ := X
  obtain ⟨hV, hx, hb, hml, hr, hlk, hown, hts, hK, hnm⟩ := hC
  intro H locs la hH hL hl
  exact lv_i2b hx hb hd rfl (k H locs la hH hL hl)
theorem R_i2c (hC : Cx m X) {x : Int32} (hd : decode m.2.1 pc = .ok (.i2c, 1))
    (k : Rw m X (pc + 1) ls (.int (x.toUInt32 % 65536).toInt32 :: st) w cl sl) : Rw m X pc ls (.int x :: st) w cl sl := by
  obtain ⟨p, l, e, R, s, mm, args, below, meth, c, Z, V⟩ := X
  obtain ⟨hV, hx, hb, hml, hr, hlk, hown, hts, hK, hnm⟩ := hC
  intro H locs la hH hL hl
  exact lv_i2c hx hb hd rfl (k H locs la hH hL hl)
theorem R_dup (hC : Cx m X) {v : Value} (hd : decode m.2.1 pc = .ok (.dup, 1)) (hc : v.category = 1)
    (k : Rw m X (pc + 1) ls (v :: v :: st) w cl sl) : Rw m X pc ls (v :: st) w cl sl := by
  obtain ⟨p, l, e, R, s, mm, args, below, meth, c, Z, V⟩ := X
  obtain ⟨hV, hx, hb, hml, hr, hlk, hown, hts, hK, hnm⟩ := hC
  intro H locs la hH hL hl
  exact lv_dup hx hb hd (by rw [rl_cat]; exact hc) (k H locs la hH hL hl)
theorem R_dup2 (hC : Cx m X) {v u : Value} (hd : decode m.2.1 pc = .ok (.dup2, 1)) (hc : v.category = 1) (hc2 : u.category = 1)
    (k : Rw m X (pc + 1) ls (v :: u :: v :: u :: st) w cl sl) : Rw m X pc ls (v :: u :: st) w cl sl := by
  obtain ⟨p, l, e, R, s, mm, args, below, meth, c, Z, V⟩ := X
  obtain ⟨hV, hx, hb, hml, hr, hlk, hown, hts, hK, hnm⟩ := hC
  intro H locs la hH hL hl
  exact lv_dup2_11 hx hb hd (by rw [rl_cat]; exact hc) (by rw [rl_cat]; exact hc2) (k H locs la hH hL hl)
theorem R_pop (hC : Cx m X) {v : Value} (hd : decode m.2.1 pc = .ok (.pop, 1)) (hc : v.category = 1)
    (k : Rw m X (pc + 1) ls (st) w cl sl) : Rw m X pc ls (v :: st) w cl sl := by
  obtain ⟨p, l, e, R, s, mm, args, below, meth, c, Z, V⟩ := X
  obtain ⟨hV, hx, hb, hml, hr, hlk, hown, hts, hK, hnm⟩ := hC
  intro H locs la hH hL hl
  exact lv_pop hx hb hd (by rw [rl_cat]; exact hc) (k H locs la hH hL hl)
theorem R_goto (hC : Cx m X) {off : Int} (tgt : Nat) (hd : decode m.2.1 pc = .ok (.goto off, 3)) (ht : (pc : Int) + off = (tgt : Int))
    (k : Rw m X tgt ls st w cl sl) : Rw m X pc ls st w cl sl := by
  obtain ⟨p, l, e, R, s, mm, args, below, meth, c, Z, V⟩ := X
  obtain ⟨hV, hx, hb, hml, hr, hlk, hown, hts, hK, hnm⟩ := hC
  intro H locs la hH hL hl
  exact lv_goto hx hb hd ht (k H locs la hH hL hl)
theorem R_if_eq (hC : Cx m X) {x : Int32} {off : Int} (tgt : Nat) (hd : decode m.2.1 pc = .ok (.ifCond .eq off, 3)) (ht : (pc : Int) + off = (tgt : Int))
    (kt : x = 0 → Rw m X tgt ls st w cl sl) (kf : ¬ x = 0 → Rw m X (pc + 3) ls st w cl sl) : Rw m X pc ls (.int x :: st) w cl sl := by
  obtain ⟨p, l, e, R, s, mm, args, below, meth, c, Z, V⟩ := X
  obtain ⟨hV, hx, hb, hml, hr, hlk, hown, hts, hK, hnm⟩ := hC
  intro H locs la hH hL hl
  exact lv_if_eq hx hb hd ht (fun q => kt q H locs la hH hL hl) (fun q => kf q H locs la hH hL hl)
theorem R_icmp_eq (hC : Cx m X) {x y : Int32} {off : Int} (tgt : Nat) (hd : decode m.2.1 pc = .ok (.if_icmp .eq off, 3)) (ht : (pc : Int) + off = (tgt : Int))
    (kt : x = y → Rw m X tgt ls st w cl sl) (kf : ¬ x = y → Rw m X (pc + 3) ls st w cl sl) : Rw m X pc ls (.int y :: .int x :: st) w cl sl := by
  obtain ⟨p, l, e, R, s, mm, args, below, meth, c, Z, V⟩ := X
  obtain ⟨hV, hx, hb, hml, hr, hlk, hown, hts, hK, hnm⟩ := hC
  intro H locs la hH hL hl
  exact lv_icmp_eq hx hb hd ht (fun q => kt q H locs la hH hL hl) (fun q => kf q H locs la hH hL hl)
theorem R_if_ne (hC : Cx m X) {x : Int32} {off : Int} (tgt : Nat) (hd : decode m.2.1 pc = .ok (.ifCond .ne off, 3)) (ht : (pc : Int) + off = (tgt : Int))
    (kt : ¬ x = 0 → Rw m X tgt ls st w cl sl) (kf : x = 0 → Rw m X (pc + 3) ls st w cl sl) : Rw m X pc ls (.int x :: st) w cl sl := by
  obtain ⟨p, l, e, R, s, mm, args, below, meth, c, Z, V⟩ := X
  obtain ⟨hV, hx, hb, hml, hr, hlk, hown, hts, hK, hnm⟩ := hC
  intro H locs la hH hL hl
  exact lv_if_ne hx hb hd ht (fun q => kt q H locs la hH hL hl) (fun q => kf q H locs la hH hL hl)
theorem R_icmp_ne (hC : Cx m X) {x y : Int32} {off : Int} (tgt : Nat) (hd : decode m.2.1 pc = .ok (.if_icmp .ne off, 3)) (ht : (pc : Int) + off = (tgt : Int))
    (kt : ¬ x = y → Rw m X tgt ls st w cl sl) (kf : x = y → Rw m X (pc + 3) ls st w cl sl) : Rw m X pc ls (.int y :: .int x :: st) w cl sl := by
  obtain ⟨p, l, e, R, s, mm, args, below, meth, c, Z, V⟩ := X
  obtain ⟨hV, hx, hb, hml, hr, hlk, hown, hts, hK, hnm⟩ := hC
  intro H locs la hH hL hl
  exact lv_icmp_ne hx hb hd ht (fun q => kt q H locs la hH hL hl) (fun q => kf q H locs la hH hL hl)
theorem R_if_lt (hC : Cx m X) {x : Int32} {off : Int} (tgt : Nat) (hd : decode m.2.1 pc = .ok (.ifCond .lt off, 3)) (ht : (pc : Int) + off = (tgt : Int))
    (kt : x < 0 → Rw m X tgt ls st w cl sl) (kf : ¬ x < 0 → Rw m X (pc + 3) ls st w cl sl) : Rw m X pc ls (.int x :: st) w cl sl := by
  obtain ⟨p, l, e, R, s, mm, args, below, meth, c, Z, V⟩ := X
  obtain ⟨hV, hx, hb, hml, hr, hlk, hown, hts, hK, hnm⟩ := hC
  intro H locs la hH hL hl
  exact lv_if_lt hx hb hd ht (fun q => kt q H locs la hH hL hl) (fun q => kf q H locs la hH hL hl)
theorem R_icmp_lt (hC : Cx m X) {x y : Int32} {off : Int} (tgt : Nat) (hd : decode m.2.1 pc = .ok (.if_icmp .lt off, 3)) (ht : (pc : Int) + off = (tgt : Int))
    (kt : x < y → Rw m X tgt ls st w cl sl) (kf : ¬ x < y → Rw m X (pc + 3) ls st w cl sl) : Rw m X pc ls (.int y :: .int x :: st) w cl sl := by
  obtain ⟨p, l, e, R, s, mm, args, below, meth, c, Z, V⟩ := X
  obtain ⟨hV, hx, hb, hml, hr, hlk, hown, hts, hK, hnm⟩ := hC
  intro H locs la hH hL hl
  exact lv_icmp_lt hx hb hd ht (fun q => kt q H locs la hH hL hl) (fun q => kf q H locs la hH hL hl)
theorem R_if_ge (hC : Cx m X) {x : Int32} {off : Int} (tgt : Nat) (hd : decode m.2.1 pc = .ok (.ifCond .ge off, 3)) (ht : (pc : Int) + off = (tgt : Int))
    (kt : 0 ≤ x → Rw m X tgt ls st w cl sl) (kf : ¬ 0 ≤ x → Rw m X (pc + 3) ls st w cl sl) : Rw m X pc ls (.int x :: st) w cl sl := by
  obtain ⟨p, l, e, R, s, mm, args, below, meth, c, Z, V⟩ := X
  obtain ⟨hV, hx, hb, hml, hr, hlk, hown, hts, hK, hnm⟩ := hC
  intro H locs la hH hL hl
  exact lv_if_ge hx hb hd ht (fun q => kt q H locs la hH hL hl) (fun q => kf q H locs la hH hL hl)
theorem R_icmp_ge (hC : Cx m X) {x y : Int32} {off : Int} (tgt : Nat) (hd : decode m.2.1 pc = .ok (.if_icmp .ge off, 3)) (ht : (pc : Int) + off = (tgt : Int))
    (kt : y ≤ x → Rw m X tgt ls st w cl sl) (kf : ¬ y ≤ x → Rw m X (pc + 3) ls st w cl sl) : Rw m X pc ls (.int y :: .int x :: st) w cl sl := by
  obtain ⟨p, l, e, R, s, mm, args, below, meth, c, Z, V⟩ := X
  obtain ⟨hV, hx, hb, hml, hr, hlk, hown, hts, hK, hnm⟩ := hC
  intro H locs la hH hL hl
  exact lv_icmp_ge hx hb hd ht (fun q => kt q H locs la hH hL hl) (fun q => kf q H locs la hH hL hl)
theorem R_if_gt (hC : Cx m X) {x : Int32} {off : Int} (tgt : Nat) (hd : decode m.2.1 pc = .ok (.ifCond .gt off, 3)) (ht : (pc : Int) + off = (tgt : Int))
    (kt : 0 < x → Rw m X tgt ls st w cl sl) (kf : ¬ 0 < x → Rw m X (pc + 3) ls st w cl sl) : Rw m X pc ls (.int x :: st) w cl sl := by
  obtain ⟨p, l, e, R, s, mm, args, below, meth, c, Z, V⟩ := X
  obtain ⟨hV, hx, hb, hml, hr, hlk, hown, hts, hK, hnm⟩ := hC
  intro H locs la hH hL hl
  exact lv_if_gt hx hb hd ht (fun q => kt q H locs la hH hL hl) (fun q => kf q H locs la hH hL hl)
theorem R_icmp_gt (hC : Cx m X) {x y : Int32} {off : Int} (tgt : Nat) (hd : decode m.2.1 pc = .ok (.if_icmp .gt off, 3)) (ht : (pc : Int) + off = (tgt : Int))
    (kt : y < x → Rw m X tgt ls st w cl sl) (kf : ¬ y < x → Rw m X (pc + 3) ls st w cl sl) : Rw m X pc ls (.int y :: .int x :: st) w cl sl := by
  obtain ⟨p, l, e, R, s, mm, args, below, meth, c, Z, V⟩ := X
  obtain ⟨hV, hx, hb, hml, hr, hlk, hown, hts, hK, hnm⟩ := hC
  intro H locs la hH hL hl
  exact lv_icmp_gt hx hb hd ht (fun q => kt q H locs la hH hL hl) (fun q => kf q H locs la hH hL hl)
theorem R_if_le (hC : Cx m X) {x : Int32} {off : Int} (tgt : Nat) (hd : decode m.2.1 pc = .ok (.ifCond .le off, 3)) (ht : (pc : Int) + off = (tgt : Int))
    (kt : x ≤ 0 → Rw m X tgt ls st w cl sl) (kf : ¬ x ≤ 0 → Rw m X (pc + 3) ls st w cl sl) : Rw m X pc ls (.int x :: st) w cl sl := by
  obtain ⟨p, l, e, R, s, mm, args, below, meth, c, Z, V⟩ := X
  obtain ⟨hV, hx, hb, hml, hr, hlk, hown, hts, hK, hnm⟩ := hC
  intro H locs la hH hL hl
  exact lv_if_le hx hb hd ht (fun q => kt q H locs la hH hL hl) (fun q => kf q H locs la hH hL hl)
theorem R_icmp_le (hC : Cx m X) {x y : Int32} {off : Int} (tgt : Nat) (hd : decode m.2.1 pc = .ok (.if_icmp .le off, 3)) (ht : (pc : Int) + off = (tgt : Int))
    (kt : x ≤ y → Rw m X tgt ls st w cl sl) (kf : ¬ x ≤ y → Rw m X (pc + 3) ls st w cl sl) : Rw m X pc ls (.int y :: .int x :: st) w cl sl := by
  obtain ⟨p, l, e, R, s, mm, args, below, meth, c, Z, V⟩ := X
  obtain ⟨hV, hx, hb, hml, hr, hlk, hown, hts, hK, hnm⟩ := hC
  intro H locs la hH hL hl
  exact lv_icmp_le hx hb hd ht (fun q => kt q H locs la hH hL hl) (fun q => kf q H locs la hH hL hl)
theorem R_tableOut (hC : Cx m X) {dflt lo hi : Int} {offs : Array Int} {len : Nat} {x : Int32} (tgt : Nat) (hd : decode m.2.1 pc = .ok (.tableswitch dflt lo hi offs, len)) (h : x.toInt < lo ∨ hi < x.toInt) (ht : (pc : Int) + dflt = (tgt : Int))
    (k : Rw m X tgt ls st w cl sl) : Rw m X pc ls (.int x :: st) w cl sl := by
  obtain ⟨p, l, e, R, s, mm, args, below, meth, c, Z, V⟩ := X
  obtain ⟨hV, hx, hb, hml, hr, hlk, hown, hts, hK, hnm⟩ := hC
  intro H locs la hH hL hl
  exact lv_tableOut hx hb hd h ht (k H locs la hH hL hl)
theorem R_tableIn (hC : Cx m X) {dflt lo hi : Int} {offs : Array Int} {len : Nat} {x : Int32} {off : Int} (tgt : Nat) (hd : decode m.2.1 pc = .ok (.tableswitch dflt lo hi offs, len)) (h1 : ¬ x.toInt < lo) (h2 : ¬ hi < x.toInt) (ho : offs[(x.toInt - lo).toNat]? = some off) (ht : (pc : Int) + off = (tgt : Int))
    (k : Rw m X tgt ls st w cl sl) : Rw m X pc ls (.int x :: st) w cl sl := by
  obtain ⟨p, l, e, R, s, mm, args, below, meth, c, Z, V⟩ := X
  obtain ⟨hV, hx, hb, hml, hr, hlk, hown, hts, hK, hnm⟩ := hC
  intro H locs la hH hL hl
  exact lv_tableIn hx hb hd h1 h2 ho ht (k H locs la hH hL hl)
theorem R_lookup (hC : Cx m X) {dflt : Int} {ps : Array (Int × Int)} {len : Nat} {x : Int32} {off : Int} (tgt : Nat) (hd : decode m.2.1 pc = .ok (.lookupswitch dflt ps, len)) (hp : (ps.toList.zip (ps.toList.drop 1)).all (fun (a, next) => a.1 < next.1) = true) (ho : Op.lookupswitch.offset ps.toList dflt x.toInt = off) (ht : (pc : Int) + off = (tgt : Int))
    (k : Rw m X tgt ls st w cl sl) : Rw m X pc ls (.int x :: st) w cl sl := by
  obtain ⟨p, l, e, R, s, mm, args, below, meth, c, Z, V⟩ := X
  obtain ⟨hV, hx, hb, hml, hr, hlk, hown, hts, hK, hnm⟩ := hC
  intro H locs la hH hL hl
  exact lv_lookup hx hb hd hp ho ht (k H locs la hH hL hl)
theorem R_ldc (hC : Cx m X) {idx : Nat} {v : Int32} (hd : decode m.2.1 pc = .ok (.ldc idx, 2)) (hk : Cond.constant m.1.cls idx v ∈ lw_gl)
    (k : Rw m X (pc + 2) ls (.int v :: st) w cl sl) : Rw m X pc ls (st) w cl sl := by
  obtain ⟨p, l, e, R, s, mm, args, below, meth, c, Z, V⟩ := X
  obtain ⟨hV, hx, hb, hml, hr, hlk, hown, hts, hK, hnm⟩ := hC
  intro H locs la hH hL hl
  exact lv_ldc hx hb hown (hts _ (List.mem_cons_of_mem _ hk)) hd (k H locs la hH hL hl)
theorem R_ldcw (hC : Cx m X) {idx : Nat} {v : Int32} (hd : decode m.2.1 pc = .ok (.ldc_w idx, 3)) (hk : Cond.constant m.1.cls idx v ∈ lw_gl)
    (k : Rw m X (pc + 3) ls (.int v :: st) w cl sl) : Rw m X pc ls (st) w cl sl := by
  obtain ⟨p, l, e, R, s, mm, args, below, meth, c, Z, V⟩ := X
  obtain ⟨hV, hx, hb, hml, hr, hlk, hown, hts, hK, hnm⟩ := hC
  intro H locs la hH hL hl
  exact lv_ldcw hx hb hown (hts _ (List.mem_cons_of_mem _ hk)) hd (k H locs la hH hL hl)
theorem R_ldc2 (hC : Cx m X) {idx : Nat} {v : Int64} (hd : decode m.2.1 pc = .ok (.ldc2_w idx, 3)) (hk : Cond.constantLong m.1.cls idx v ∈ lw_gl)
    (k : Rw m X (pc + 3) ls (.long v :: st) w cl sl) : Rw m X pc ls (st) w cl sl := by
  obtain ⟨p, l, e, R, s, mm, args, below, meth, c, Z, V⟩ := X
  obtain ⟨hV, hx, hb, hml, hr, hlk, hown, hts, hK, hnm⟩ := hC
  intro H locs la hH hL hl
  exact lv_ldc2 hx hb hown (hts _ (List.mem_cons_of_mem _ hk)) hd (k H locs la hH hL hl)
theorem R_lcmp (hC : Cx m X) {x y : Int64} (hd : decode m.2.1 pc = .ok (.lcmp, 1))
    (k : Rw m X (pc + 1) ls (.int (lg_cmp x y) :: st) w cl sl) : Rw m X pc ls (.long y :: .long x :: st) w cl sl := by
  obtain ⟨p, l, e, R, s, mm, args, below, meth, c, Z, V⟩ := X
  obtain ⟨hV, hx, hb, hml, hr, hlk, hown, hts, hK, hnm⟩ := hC
  intro H locs la hH hL hl
  exact W.lcmp hx hb hd (k H locs la hH hL hl)
end RULES
end
section
theorem rho_ge {V : aV} (hV : VOK V) {a : Nat} (ha : 16 ≤ a) : V.2.2.1 a = V.2.2.2.size + (a - 16) := by
  have h := hV.1 (a - 16)
  rwa [show 16 + (a - 16) = a by omega] at h
theorem rho_fr {V : aV} (hV : VOK V) {a : Nat} (ha : 16 ≤ a) : fr V (V.2.2.1 a) := by
  show V.2.2.2.size ≤ V.2.2.1 a
  rw [rho_ge hV ha]; omega
theorem rho_ne {V : aV} (hV : VOK V) {a j : Nat} (ha : 16 ≤ a) (hne : j ≠ a) : V.2.2.1 j ≠ V.2.2.1 a := by
  rw [rho_ge hV ha]
  by_cases hj : 16 ≤ j
  · rw [rho_ge hV hj]; omega
  · have := hV.2 j (by omega); omega
theorem va_up_eq {α : Type} (f : Nat → α) (k : Nat) (v : α) : va_up f k v k = v := by simp [va_up]
theorem HW_set {V : aV} {w : aW} {H H1 : Heap} {a : Nat} {c c0 : aE} (hV : VOK V) (hH : HW V w H) (ha : 16 ≤ a) (h0 : w.2 a = some c0) (hc : va_at V.1 vwCl (V.2.2.1 a, cE V c) H1) (hz : H1.size = H.size) (oq : ∀ q : Nat, q ≠ V.2.2.1 a → H1[q]? = H[q]?) : HW V (w.1, va_up w.2 a (some c)) H1 := by
  obtain ⟨h1, h2, h3, h4⟩ := hH
  refine ⟨by rw [hz]; exact h1, h2, fun q hq => ?_, fun i ci hi => ?_⟩
  · have := rho_fr hV ha
    unfold fr at this
    rw [oq q (by omega)]; exact h3 q hq
  · by_cases hia : i = a
    · subst hia
      simp only [va_up_eq] at hi
      cases hi
      exact ⟨(h4 i c0 h0).1, hc⟩
    · simp only [va_up, if_neg hia] at hi
      obtain ⟨g1, g2⟩ := h4 i ci hi
      exact ⟨g1, g2.kept (oq _ (rho_ne hV ha hia))⟩
theorem fr_app {V : aV} {locs : List Loc} {a k : Nat} (hL : ∀ q ∈ locs, fr V q.base) (ha : fr V a) : ∀ q ∈ locs ++ [⟨a, k⟩], fr V q.base := by
  intro q hq
  rcases List.mem_append.mp hq with h | h
  · exact hL q h
  · rw [List.mem_singleton.mp h]; exact ha
theorem gl_ts {m : mi} {args : Array Value} {s : State} (hts : ∀ w ∈ wsOf m, w.before args s = true) {w : Cond} (h : w ∈ lw_gl) : w.before args s = true := hts w (List.mem_cons_of_mem _ h)
section WRULES
variable {m : mi} {X : aX} {pc : Nat} {ls : List (Option Value)} {st : List Value} {w : aW} {cl sl : Nat}
theorem R_get (hC : Cx m X) {a ci k idx : Nat} {fin : Bool} {ty : FieldType} {fs : List Value} {v : Value} (hd : decode m.2.1 pc = .ok (.getfield idx, 3)) (hf : FL m.1.cls idx ci k fin ty) (hw : w.2 a = some (.inr (ci, fs))) (hv : fs[k]? = some v)
    (kk : Rw m X (pc + 3) ls (v :: st) w cl sl) : Rw m X pc ls (.ref a :: st) w cl sl := by
  obtain ⟨p, l, e, R, s, mm, args, below, meth, c, Z, V⟩ := X
  obtain ⟨hV, hx, hb, hml, hr, hlk, hown, hts, hK, hnm⟩ := hC
  intro H locs la hH hL hl
  obtain ⟨C, T, N, h1, ⟨hin, -, -⟩, h3, -, -, h6⟩ := hf
  have hP : va_P V.1 vwCl [(V.2.2.1 a, .inr (ci, fs.map (rl V.2.2.1)))] H := by
    intro k q hq
    have hq2 := List.mem_of_getElem? hq
    rw [List.mem_singleton] at hq2
    subst hq2
    exact (hH.2.2.2 a _ hw).2
  have hv2 : (fs.map (rl V.2.2.1))[k]? = some (rl V.2.2.1 v) := by rw [List.getElem?_map, hv]; rfl
  rcases h6 with ⟨h6, -⟩ | ⟨host, h6⟩
  · exact va_get hx hb (fun w hw => gl_ts hts hw) hin hown hK.1 hP 0 rfl h1 k h3 (gl_ts hts h6) (fun _ h => h) hv2 hd (kk H locs la hH hL hl)
  · exact va_getN hx hb (fun w hw => gl_ts hts hw) hin hown hK.1 hP 0 rfl h1 k h3 (va_Nw.use rfl (hK.2.1 _ h6)) (fun _ h => h) hv2 hd (kk H locs la hH hL hl)
theorem R_put (hC : Cx m X) {a ci k idx : Nat} {ty : FieldType} {fs : List Value} {v : Value} (hd : decode m.2.1 pc = .ok (.putfield idx, 3)) (hf : FL m.1.cls idx ci k false ty) (ha : 16 ≤ a) (hw : w.2 a = some (.inr (ci, fs))) (hkl : k < fs.length) (hn : ∀ r, narrow ty (rl r v) = rl r v ∧ fits ty (rl r v) = true)
    (kk : Rw m X (pc + 3) ls st (w.1, va_up w.2 a (some (.inr (ci, fs.set k v)))) cl sl) : Rw m X pc ls (v :: .ref a :: st) w cl sl := by
  obtain ⟨p, l, e, R, s, mm, args, below, meth, c, Z, V⟩ := X
  obtain ⟨hV, hx, hb, hml, hr, hlk, hown, hts, hK, hnm⟩ := hC
  intro H locs la hH hL hl
  obtain ⟨C, T, N, h1, ⟨hin, ⟨ty0, hty⟩, hnn⟩, hk, hfin, hdt, h6⟩ := hf
  have hap := va_apart (own := m.1.cls) (fun w hw => gl_ts hts hw) hin ty0 hty hnn hK.1 h1
  obtain ⟨r, h2, cell, q1, q2, q3, q4⟩ := (hH.2.2.2 a _ hw).2
  have hr2 : r = (C, T, N) := Option.some.inj (h2.symm.trans h1)
  subst hr2
  obtain ⟨hS, hfc, kC, hkC, hkind⟩ := hK.1.1 ci _ h1
  obtain ⟨cf, kf, fi, f, hi, hsl⟩ := hS k hk
  have hlay := gl_ts hts (hin _ (u_in_lay hk))
  unfold u_lay at hlay
  rw [if_neg (by rw [hfin]; decide)] at hlay
  have hst := (u_facts hfc hkC (u_lays (fun w hw => gl_ts hts hw) hin hk) hi).1
  have h7 := u_store hfc hkC hkind hlay hi hdt (hn V.2.2.1).1 (hn V.2.2.1).2
  have fin : ∀ H' : Heap, H'[V.2.2.1 a]? = some (cell.setSlot f.slot (rl V.2.2.1 v)) → H'.size = H.size → (∀ q, q ≠ V.2.2.1 a → H'[q]? = H[q]?) → W p l e R s mm args below meth c H' (locs ++ [⟨V.2.2.1 a, f.slot⟩]) cl sl Z (F0 mm (pc + 3) la (st.map (rl V.2.2.1))) := by
    intro H' e1 e2 e3
    refine kk H' _ la (HW_set hV hH ha hw ?_ e2 e3) (fr_app hL (rho_fr hV ha)) hl
    rw [hsl] at e1
    refine ⟨_, h1, t_OB.to (V := updV (vp_V (fs.map (rl V.2.2.1))) k (rl V.2.2.1 v)) ⟨_, e1, q2, q3, t_set q4 hap hk _⟩ (fun j _ => ?_)⟩
    show _ = vp_V ((fs.set k v).map (rl V.2.2.1)) j
    rw [List.map_set]
    exact vp_updV_set (by simpa using hkl) _ j
  rcases h6 with ⟨h6, -⟩ | ⟨host, h6⟩
  · exact W.putK hx hb (f := f) ⟨hown, gl_ts hts h6, ⟨_, _, _, hi⟩, hst⟩ (by rw [q2]; exact h7) q1 q3 (by rw [hsl]; exact k2_hasslot (q4 k hk)) rfl rfl hd fin
  · exact va_WputK hx hb (f := f) hown (va_Nw.use rfl (hK.2.1 _ h6)) hi hst (by rw [q2]; exact h7) q1 q3 (by rw [hsl]; exact k2_hasslot (q4 k hk)) rfl rfl hd fin
theorem R_putF (hC : Cx m X) {a ci k idx : Nat} {ty : FieldType} {fs : List Value} {v : Value} (hd : decode m.2.1 pc = .ok (.putfield idx, 3)) (hf : FL m.1.cls idx ci k true ty) (hi0 : m.1.name = "<init>") (ha : 16 ≤ a) (hw : w.2 a = some (.inr (ci, fs))) (hkl : k < fs.length) (hown2 : ∀ (C : String) (T : u_T) (N : Nat), vwCl[ci]? = some (C, T, N) → (T k).1 = m.1.cls) (hn : ∀ r, narrow ty (rl r v) = rl r v ∧ fits ty (rl r v) = true)
    (kk : Rw m X (pc + 3) ls st (w.1, va_up w.2 a (some (.inr (ci, fs.set k v)))) cl sl) : Rw m X pc ls (v :: .ref a :: st) w cl sl := by
  obtain ⟨p, l, e, R, s, mm, args, below, meth, c, Z, V⟩ := X
  obtain ⟨hV, hx, hb, hml, hr, hlk, hown, hts, hK, hnm⟩ := hC
  intro H locs la hH hL hl
  obtain ⟨C, T, N, h1, ⟨hin, ⟨ty0, hty⟩, hnn⟩, hk, hfin, hdt, h6⟩ := hf
  have hap := va_apart (own := m.1.cls) (fun w hw => gl_ts hts hw) hin ty0 hty hnn hK.1 h1
  obtain ⟨r, h2, cell, q1, q2, q3, q4⟩ := (hH.2.2.2 a _ hw).2
  have hr2 : r = (C, T, N) := Option.some.inj (h2.symm.trans h1)
  subst hr2
  obtain ⟨hS, hfc, kC, hkC, hkind⟩ := hK.1.1 ci _ h1
  obtain ⟨cf, kf, fi, f, hi, hsl⟩ := hS k hk
  have hlay := gl_ts hts (hin _ (u_in_lay hk))
  unfold u_lay at hlay
  rw [if_pos hfin] at hlay
  have hst := (u_facts hfc hkC (u_lays (fun w hw => gl_ts hts hw) hin hk) hi).1
  have hcf : mm.cls = cf := by
    obtain ⟨_, _, c', _, _, _, -, -, hf', -, -, -, hown3, -⟩ := Cond.laysFinal_spec hlay
    have e1 : c' = cf := by have := hi.symm.trans hf'; simp at this; exact this.1.symm
    rw [hown2 C T N h1] at hown3
    rw [← e1]; exact Option.some.inj (hown.symm.trans hown3)
  have h7 := u_fits hfc hkC hkind (Or.inr hlay) hi hdt (hn V.2.2.1).1 (hn V.2.2.1).2
  have fin : ∀ H' : Heap, H'[V.2.2.1 a]? = some (cell.setSlot f.slot (rl V.2.2.1 v)) → H'.size = H.size → (∀ q, q ≠ V.2.2.1 a → H'[q]? = H[q]?) → W p l e R s mm args below meth c H' (locs ++ [⟨V.2.2.1 a, f.slot⟩]) cl sl Z (F0 mm (pc + 3) la (st.map (rl V.2.2.1))) := by
    intro H' e1 e2 e3
    refine kk H' _ la (HW_set hV hH ha hw ?_ e2 e3) (fr_app hL (rho_fr hV ha)) hl
    rw [hsl] at e1
    refine ⟨_, h1, t_OB.to (V := updV (vp_V (fs.map (rl V.2.2.1))) k (rl V.2.2.1 v)) ⟨_, e1, q2, q3, t_set q4 hap hk _⟩ (fun j _ => ?_)⟩
    show _ = vp_V ((fs.set k v).map (rl V.2.2.1)) j
    rw [List.map_set]
    exact vp_updV_set (by simpa using hkl) _ j
  rcases h6 with ⟨h6, -⟩ | ⟨host, h6⟩
  · exact W.putFinK hx hb hown (gl_ts hts h6) hi hst hcf (hnm.trans hi0) (by rw [q2]; exact h7) q1 q3 (by rw [hsl]; exact k2_hasslot (q4 k hk)) rfl rfl hd fin
  · refine va_Wputf hx hb hown (va_Nw.use rfl (hK.2.1 _ h6)) hi hst (Or.inr ⟨hcf, hnm.trans hi0⟩) q1 (by rw [q3]; exact fun h => by cases h) (by rw [hsl]; exact k2_hasslot (q4 k hk)) h7.1 (by rw [q2, q3]; exact h7.2) rfl rfl hd ?_
    have hlt : V.2.2.1 a < H.size := (Array.getElem?_eq_some_iff.mp q1).1
    refine fin _ ?_ ?_ ?_
    · simp [Array.getElem?_setIfInBounds, hlt]
    · simp
    · intro q hq
      simp [Array.getElem?_setIfInBounds, Ne.symm hq]
theorem arrK {V : aV} {s : State} (hK : KX V s) {t : Nat} {ty : FieldType} (ht : (tys V)[t]? = some (V.2.1 t, ty)) (n : Nat) (z : Nat → Value) : s.isArrayOf (arrV (V.2.1 t) n z) ty := (hK.1.2 t _ ht).1 n z
theorem R_iaload (hC : Cx m X) {a n : Nat} {f : Nat → Int32} {i : Int32} (hd : decode m.2.1 pc = .ok (.iaload, 1)) (hw : w.2 a = some (.inl (0, n, .inl f))) (hi : vp_in i n)
    (kk : Rw m X (pc + 1) ls (.int (f i.toNatClampNeg) :: st) w cl sl) : Rw m X pc ls (.int i :: .ref a :: st) w cl sl := by
  obtain ⟨p, l, e, R, s, mm, args, below, meth, c, Z, V⟩ := X
  obtain ⟨hV, hx, hb, hml, hr, hlk, hown, hts, hK, hnm⟩ := hC
  intro H locs la hH hL hl
  have hP : va_P V.1 vwCl [(V.2.2.1 a, .inl (V.2.1 0, n, .inl f))] H := by
    intro k q hq
    have hq2 := List.mem_of_getElem? hq
    rw [List.mem_singleton] at hq2
    subst hq2
    exact (hH.2.2.2 a _ hw).2
  exact va_iald hx hb hK.1 hP 0 0 rfl rfl hi hd (kk H locs la hH hL hl)
theorem R_baload (hC : Cx m X) {a n : Nat} {f : Nat → Int32} {i : Int32} (hd : decode m.2.1 pc = .ok (.baload, 1)) (hw : w.2 a = some (.inl (1, n, .inl f))) (hi : vp_in i n)
    (kk : Rw m X (pc + 1) ls (.int (f i.toNatClampNeg) :: st) w cl sl) : Rw m X pc ls (.int i :: .ref a :: st) w cl sl := by
  obtain ⟨p, l, e, R, s, mm, args, below, meth, c, Z, V⟩ := X
  obtain ⟨hV, hx, hb, hml, hr, hlk, hown, hts, hK, hnm⟩ := hC
  intro H locs la hH hL hl
  have hP : va_P V.1 vwCl [(V.2.2.1 a, .inl (V.2.1 1, n, .inl f))] H := by
    intro k q hq
    have hq2 := List.mem_of_getElem? hq
    rw [List.mem_singleton] at hq2
    subst hq2
    exact (hH.2.2.2 a _ hw).2
  exact va_bald hx hb hK.1 hP 0 1 rfl rfl hi hd (kk H locs la hH hL hl)
theorem R_aaload (hC : Cx m X) {a n t b : Nat} {f : Nat → Option Nat} {i : Int32} (hd : decode m.2.1 pc = .ok (.aaload, 1)) (hw : w.2 a = some (.inl (t, n, .inr (.inr (.inr (.inr f)))))) (ht : t = 3 ∨ t = 4) (hi : vp_in i n) (hb2 : f i.toNatClampNeg = some b)
    (kk : Rw m X (pc + 1) ls (.ref b :: st) w cl sl) : Rw m X pc ls (.int i :: .ref a :: st) w cl sl := by
  obtain ⟨p, l, e, R, s, mm, args, below, meth, c, Z, V⟩ := X
  obtain ⟨hV, hx, hb, hml, hr, hlk, hown, hts, hK, hnm⟩ := hC
  intro H locs la hH hL hl
  have hP : va_P V.1 vwCl [(V.2.2.1 a, .inl (V.2.1 t, n, .inr (.inr (.inr (.inr (fun j => (f j).map V.2.2.1))))))] H := by
    intro k q hq
    have hq2 := List.mem_of_getElem? hq
    rw [List.mem_singleton] at hq2
    subst hq2
    exact (hH.2.2.2 a _ hw).2
  have hk := kk H locs la hH hL hl
  have e1 : (Value.ref (V.2.2.1 b)) = va_rf ((f i.toNatClampNeg).map V.2.2.1) := by rw [hb2]; rfl
  have hk2 : W p l e R s mm args below meth c H locs cl sl Z (F0 mm (pc + 1) la (va_rf ((f i.toNatClampNeg).map V.2.2.1) :: st.map (rl V.2.2.1))) := by rw [← e1]; exact hk
  rcases ht with rfl | rfl
  · exact va_aldq hx hb hK.1 hP 0 3 rfl rfl hi hd hk2
  · exact va_aldq hx hb hK.1 hP 0 4 rfl rfl hi hd hk2
theorem R_alen (hC : Cx m X) {a n : Nat} {t : Nat} {f : Nat → Int32} (hd : decode m.2.1 pc = .ok (.arraylength, 1)) (hw : w.2 a = some (.inl (t, n, .inl f))) (ht : t = 0 ∨ t = 1)
    (kk : Rw m X (pc + 1) ls (.int (nI n) :: st) w cl sl) : Rw m X pc ls (.ref a :: st) w cl sl := by
  obtain ⟨p, l, e, R, s, mm, args, below, meth, c, Z, V⟩ := X
  obtain ⟨hV, hx, hb, hml, hr, hlk, hown, hts, hK, hnm⟩ := hC
  intro H locs la hH hL hl
  have hc : H[V.2.2.1 a]? = some (arrV (V.2.1 t) n (fun j => .int (f j))) := (hH.2.2.2 a _ hw).2
  rcases ht with rfl | rfl
  · exact W.alen hx hb hc (arrK hK (t := 0) rfl n _) (by rw [arrV_size]; rfl) rfl rfl hd (kk H locs la hH hL hl)
  · exact W.alen hx hb hc (arrK hK (t := 1) rfl n _) (by rw [arrV_size]; rfl) rfl rfl hd (kk H locs la hH hL hl)
theorem R_iastore (hC : Cx m X) {a n : Nat} {f : Nat → Int32} {i x : Int32} (hd : decode m.2.1 pc = .ok (.iastore, 1)) (ha : 16 ≤ a) (hw : w.2 a = some (.inl (0, n, .inl f))) (hi : vp_in i n)
    (kk : Rw m X (pc + 1) ls st (w.1, va_up w.2 a (some (.inl (0, n, .inl (upd f i.toNatClampNeg x))))) cl sl) : Rw m X pc ls (.int x :: .int i :: .ref a :: st) w cl sl := by
  obtain ⟨p, l, e, R, s, mm, args, below, meth, c, Z, V⟩ := X
  obtain ⟨hV, hx, hb, hml, hr, hlk, hown, hts, hK, hnm⟩ := hC
  intro H locs la hH hL hl
  have hc : H[V.2.2.1 a]? = some (arrV (V.2.1 0) n (fun j => .int (f j))) := (hH.2.2.2 a _ hw).2
  refine W.iast hx hb hc (arrK hK (t := 0) rfl n _) (fun q => by cases q) (by rw [arrV_size]; exact hi) rfl rfl hd fun H1 e z oq => ?_
  refine kk H1 _ la (HW_set hV hH ha hw ?_ z oq) (fr_app hL (rho_fr hV ha)) hl
  show H1[V.2.2.1 a]? = some (vp_cell (V.2.1 0) (n, .inl (upd f i.toNatClampNeg x)))
  rw [e, arrV_store, vp_cell_i]
  congr 2
  funext q
  by_cases hq : q = i.toNatClampNeg
  · subst hq
    simp [updV, upd]
  · simp [updV, upd, hq]
theorem R_bastore (hC : Cx m X) {a n : Nat} {f : Nat → Int32} {i x : Int32} (hd : decode m.2.1 pc = .ok (.bastore, 1)) (ha : 16 ≤ a) (hw : w.2 a = some (.inl (1, n, .inl f))) (hi : vp_in i n)
    (kk : Rw m X (pc + 1) ls st (w.1, va_up w.2 a (some (.inl (1, n, .inl (upd f i.toNatClampNeg (vp_nar .byte x)))))) cl sl) : Rw m X pc ls (.int x :: .int i :: .ref a :: st) w cl sl := by
  obtain ⟨p, l, e, R, s, mm, args, below, meth, c, Z, V⟩ := X
  obtain ⟨hV, hx, hb, hml, hr, hlk, hown, hts, hK, hnm⟩ := hC
  intro H locs la hH hL hl
  have hc : H[V.2.2.1 a]? = some (arrV (V.2.1 1) n (fun j => .int (f j))) := (hH.2.2.2 a _ hw).2
  refine W.bast hx hb hc (arrK hK (t := 1) rfl n _) (fun q => by cases q) (by rw [arrV_size]; exact hi) rfl rfl hd fun H1 e z oq => ?_
  refine kk H1 _ la (HW_set hV hH ha hw ?_ z oq) (fr_app hL (rho_fr hV ha)) hl
  show H1[V.2.2.1 a]? = some (vp_cell (V.2.1 1) (n, .inl (upd f i.toNatClampNeg (vp_nar .byte x))))
  rw [e, arrV_store, vp_cell_i]
  congr 2
  funext q
  by_cases hq : q = i.toNatClampNeg
  · subst hq
    simp [updV, upd, vp_nar, narrow]
  · simp [updV, upd, hq]
theorem R_copy (hC : Cx m X) {a a0 n0 n1 idx dd mc ms : Nat} {f g : Nat → Int32} {sp dp n : Int32} (hR : Rd X dd mc ms) (hd : decode m.2.1 pc = .ok (.invokestatic idx, 3)) (hlink : Cond.methodLink m.1.cls idx arraycopyName ∈ lw_gl) (hnat : Cond.native arraycopyName ∈ lw_gl) (hstat : Cond.static arraycopyName ∈ lw_gl) (hini : Cond.initialized "java/lang/System" ∈ lw_gl) (hdd : 1 ≤ dd) (ha : 16 ≤ a)
    (hw0 : w.2 a0 = some (.inl (0, n0, .inl f))) (hw : w.2 a = some (.inl (0, n1, .inl g))) (h1 : ¬ sp < 0) (h2 : ¬ dp < 0) (h3 : ¬ n < 0) (h4 : sp.toNatClampNeg + n.toNatClampNeg ≤ n0) (h5 : dp.toNatClampNeg + n.toNatClampNeg ≤ n1) (hcat : (st.map fun v => v.category).sum ≤ 8)
    (kk : Rw m X (pc + 3) ls st (w.1, va_up w.2 a (some (.inl (0, n1, .inl (va_cpy f g sp.toNatClampNeg dp.toNatClampNeg n.toNatClampNeg))))) cl sl) : Rw m X pc ls (.int n :: .int dp :: .ref a :: .int sp :: .ref a0 :: st) w cl sl := by
  obtain ⟨p, l, e, R, s, mm, args, below, meth, c, Z, V⟩ := X
  obtain ⟨hV, hx, hb, hml, hr, hlk, hown, hts, hK, hnm⟩ := hC
  obtain ⟨r1, r2, r3, r4⟩ := hR
  intro H locs la hH hL hl
  have nn : ∀ z : Int32, ¬ z < 0 → z.toInt = (z.toNatClampNeg : Int) := by
    intro z hz
    have hz0 : (0 : Int) ≤ z.toInt := by
      have := Int32.not_lt.mp hz
      simpa using Int32.le_iff_toInt_le.mp this
    show z.toInt = ((z.toInt.toNat : Nat) : Int)
    omega
  have hcs : ((st.map (rl V.2.2.1)).map fun v => v.category).sum = (st.map fun v => v.category).sum := by
    rw [List.map_map]
    congr 1
    exact List.map_congr_left (fun v _ => rl_cat _ v)
  intro T hT X
  have hc0 : H[V.2.2.1 a0]? = some (vp_cell (V.2.1 0) (n0, .inl f)) := (hH.2.2.2 a0 _ hw0).2
  have hc1 : H[V.2.2.1 a]? = some (vp_cell (V.2.1 0) (n1, .inl g)) := (hH.2.2.2 a _ hw).2
  obtain ⟨-, k0, hk0, cm0, hkk0⟩ := arrK hK (t := 0) rfl n0 (fun j => .int (f j))
  obtain ⟨-, k1, hk1, cm1, hkk1⟩ := arrK hK (t := 0) rfl n1 (fun j => .int (g j))
  obtain ⟨vm', X', step⟩ := X.arraycopy hx hown (gl_ts hts hlink) (gl_ts hts hnat) (gl_ts hts hstat) (gl_ts hts hini) (src := V.2.2.1 a0) (dst := V.2.2.1 a) (cs := vp_cell (V.2.1 0) (n0, .inl f)) (cd := vp_cell (V.2.1 0) (n1, .inl g)) (srcPos := sp) (destPos := dp) (n := n) (by rw [hT]; exact hc0) (by rw [hT]; exact hc1)
    (fun _ h => by cases h) (fun _ h => by cases h) (fun h => by cases h) (fun h => by cases h) hk0 hk1 hkk0 hkk1 (by simp [refKind]) h1 h2 h3
    (by rw [nn sp h1, nn n h3]; show ¬ _ > ((arrV (V.2.1 0) n0 (fun j => .int (f j))).slots.size : Int); rw [arrV_size]; omega)
    (by rw [nn dp h2, nn n h3]; show ¬ _ > ((arrV (V.2.1 0) n1 (fun j => .int (g j))).slots.size : Int); rw [arrV_size]; omega)
    (fun vm₁ _ i hi => by
      have e : (vp_cell (V.2.1 0) (n0, .inl f)).slots.getD (sp.toNatClampNeg + i) .null = .int (f (sp.toNatClampNeg + i)) := by
        show (arrV (V.2.1 0) n0 (fun j => .int (f j))).slots.getD _ _ = _
        rw [Array.getD_eq_getD_getElem?, arrV_read _ _ (by omega)]
        rfl
      refine ⟨?_, ?_⟩
      · rw [e]
        rfl
      · rw [e]
        exact trivial)
    (g := F0 mm pc la (.int n :: .int dp :: .ref (V.2.2.1 a) :: .int sp :: .ref (V.2.2.1 a0) :: st.map (rl V.2.2.1))) rfl (by rw [hml]; exact hl.1) (rest := st.map (rl V.2.2.1)) rfl (by rw [hb]; exact hd) (by omega) (by
      show 2 * 0 + _ + _ ≤ _
      have hq : nativeFrameWords "java/lang/System" "arraycopy" 5 + 11 ≤ 100 := by decide +kernel
      rw [hcs]; omega)
  have e1 : copied (vp_cell (V.2.1 0) (n0, .inl f)) (vp_cell (V.2.1 0) (n1, .inl g)) sp dp n = vp_cell (V.2.1 0) (n1, .inl (va_cpy f g sp.toNatClampNeg dp.toNatClampNeg n.toNatClampNeg)) := va_copied (fun z => .int z) _ _ f g h4
  rw [e1] at X' step
  have hlt : V.2.2.1 a < H.size := (Array.getElem?_eq_some_iff.mp hc1).1
  have hheap : ((T.setVm vm').setCell (V.2.2.1 a) (vp_cell (V.2.1 0) (n1, .inl (va_cpy f g sp.toNatClampNeg dp.toNatClampNeg n.toNatClampNeg)))).heap = H.setIfInBounds (V.2.2.1 a) (vp_cell (V.2.1 0) (n1, .inl (va_cpy f g sp.toNatClampNeg dp.toNatClampNeg n.toNatClampNeg))) := by rw [← hT]; rfl
  have oq : ∀ q : Nat, q ≠ V.2.2.1 a → (H.setIfInBounds (V.2.2.1 a) (vp_cell (V.2.1 0) (n1, .inl (va_cpy f g sp.toNatClampNeg dp.toNatClampNeg n.toNatClampNeg))))[q]? = H[q]? := fun q hq => by simp [Array.getElem?_setIfInBounds, Ne.symm hq]
  obtain ⟨t, a1, b1⟩ := kk _ _ la (HW_set hV hH ha hw (show (H.setIfInBounds (V.2.2.1 a) _)[V.2.2.1 a]? = some _ by simp [Array.getElem?_setIfInBounds, hlt]; rfl) (by simp) oq) (fun q hq => by
      rcases List.mem_append.mp hq with h | h
      · exact hL q h
      · obtain ⟨z, -, hz⟩ := List.mem_map.mp h
        rw [← hz]
        exact rho_fr hV ha) hl _ hheap X'
  exact ⟨t, step t a1, b1⟩
end WRULES
end
section
theorem aPc_blind {V : aV} {as : List Value} {w : aW} : FrameBlind (aPc V as w) := fun a U g mk h => ⟨h.1, h.2.1, KX.same (s := U) (U := U.calling g mk a) rfl h.2.2⟩
theorem wsOf_good {m j : mi} (hj : MI j) : GoodIn (wsOf m) (wsOf j) := by
  intro w hw
  rcases List.mem_cons.mp hw with rfl | h
  · exact ⟨List.mem_cons_of_mem _ hj.2.1, good_of_word (List.mem_filter.mp hj.2.1).2⟩
  · exact ⟨List.mem_cons_of_mem _ h, good_of_word (List.mem_filter.mp h).2⟩
theorem cat_map (r : Nat → Nat) (st : List Value) : ((st.map (rl r)).map fun v => v.category).sum = (st.map fun v => v.category).sum := by
  rw [List.map_map]
  congr 1
  exact List.map_congr_left (fun v _ => rl_cat _ v)
theorem run_go {p : Program} {l : Launch} {e : Env} {R : Room} {s : State} {mm : MethodId} {args : Array Value} {below : List Frame} {meth : Method} {c : Code} {H : Heap} {locs : List Loc} {cl sl mc ms : Nat} {Z : State → Prop} {V : aV} {pc : Nat} {la : Array Slot} {st0 st : List Value} {Q : Option Value → aW → Prop} {a : Array Value}
    (hL : ∀ q ∈ locs, fr V q.base)
    (hr : va_Run p l e R s mm args below meth c H locs cl sl mc ms (F0 mm pc la st0) (st.map (rl V.2.2.1)) (aQc V Q a) (fr V))
    (kk : ∀ (r : Option Value) (w : aW), Q r w → ∀ (H1 : Heap) (locs1 : List Loc), HW V w H1 → (∀ q ∈ locs1, fr V q.base) → W p l e R s mm args below meth c H1 locs1 (cl + mc) (sl + ms) Z (F0 mm (pc + 3) la ((r.toList ++ st).map (rl V.2.2.1)))) :
    W p l e R s mm args below meth c H locs cl sl Z (F0 mm pc la st0) := by
  intro T hT X
  obtain ⟨v, st₀, t, T', L, h0, X', hL2, e1, e2, ⟨r, w, hv, hq, hw⟩, stp⟩ := hr T hT X
  cases hv
  obtain ⟨t2, a1, b1⟩ := kk r w hq T'.heap (locs ++ L) (by rw [e1]; exact hw) (fun q hq => (List.mem_append.mp hq).elim (hL q) (hL2 q)) T' rfl X'
  refine ⟨t2, stp t2 ?_, b1⟩
  have e3 : ((r.toList ++ st).map (rl V.2.2.1)) = (r.map (rl V.2.2.1)).toList ++ st.map (rl V.2.2.1) := by
    cases r <;> simp
  rw [e3] at a1
  exact a1
section CRULES
variable {m : mi} {X : aX} {pc : Nat} {ls : List (Option Value)} {st : List Value} {w : aW} {cl sl : Nat}
theorem R_callV (hC : Cx m X) {j : mi} {n idx a ci d dd mc ms mcX msX N : Nat} {T : u_T} {fs As : List Value} {Q : Option Value → aW → Prop} (hR : Rd X dd mcX msX) (hd : decode m.2.1 pc = .ok (.invokevirtual idx, 3)) (hj : MV j n) (hl : ML m.1.cls idx j) (hw : w.2 a = some (.inr (ci, fs))) (hcl : vwCl[ci]? = some (j.1.cls, T, N)) (hM : Mt j d mc ms (.ref a :: As) w Q)
    (hn : As.length = n) (hdd : d + 1 ≤ dd) (hroom : cl + mc ≤ mcX ∧ sl + ms ≤ msX) (hcat : (st.map fun v => v.category).sum ≤ 8)
    (kk : ∀ (r : Option Value) (w' : aW), Q r w' → Rw m X (pc + 3) ls (r.toList ++ st) w' (cl + mc) (sl + ms)) : Rw m X pc ls (As.reverse ++ .ref a :: st) w cl sl := by
  obtain ⟨p, l, e, R, s, mm, args, below, meth, c, Z, V⟩ := X
  obtain ⟨hV, hx, hb, hml, hr, hlk, hown, hts, hK, hnm⟩ := hC
  obtain ⟨r1, r2, r3, r4⟩ := hR
  intro H locs la hH hL hl2
  have hcb : Cond.code j.1 j.2.1 j.2.2.1 j.2.2.2 ∈ wsOf j := List.mem_cons_self
  have hrec : ∃ cellB : Cell, H[V.2.2.1 a]? = some cellB ∧ cellB.vm.isStatics = false ∧ s.vm.findClass j.1.cls = some cellB.cls := by
    have hP : va_P V.1 vwCl [(V.2.2.1 a, .inr (ci, fs.map (rl V.2.2.1)))] H := by
      intro k q hq
      have hq2 := List.mem_of_getElem? hq
      rw [List.mem_singleton] at hq2
      subst hq2
      exact (hH.2.2.2 a _ hw).2
    exact va_recv hK.1 hP (ci := ci) (q0 := 0) hcl rfl
  have hpre : PreV s H j.1.cls (V.2.2.1 a) (aPc V (.ref a :: As) w) (As.map (rl V.2.2.1)) := ⟨aPc_blind, hrec, fun U hU hW => ⟨rfl, by rw [hU]; exact hH, hK.moved hW⟩⟩
  have hsig : ∀ sig, parseMethodDescriptor j.1.desc = some sig → n = sig.parameters.length := fun sig h => by
    have h2 := hj.2.2.2
    rw [h] at h2
    exact (Option.some.inj h2).symm
  have hst : (As.reverse ++ .ref a :: st).map (rl V.2.2.1) = (As.map (rl V.2.2.1)).reverse ++ .ref (V.2.2.1 a) :: st.map (rl V.2.2.1) := by
    rw [List.map_append, List.map_reverse]; rfl
  have hrm : (rmD d mc ms).frames + 1 ≤ R.frames ∧ 8 + (j.2.2.1 + 11) + (rmD d mc ms).locals ≤ R.locals := by
    have := hj.1.2.2.2.2
    constructor
    · show d + 1 ≤ _; omega
    · show 8 + (j.2.2.1 + 11) + (60 * d + 60) ≤ _; omega
  have hroom2 : cl + mc ≤ R.cells ∧ sl + ms ≤ R.slots := ⟨by omega, by omega⟩
  refine run_go (a := (Value.ref (V.2.2.1 a) :: As.map (rl V.2.2.1)).toArray) (Q := Q) hL ?_ (fun r w' hq H1 locs1 g1 g2 => kk r w' hq H1 locs1 la g1 g2 hl2)
  rcases hl with hl | ⟨host, hl⟩
  · exact va_runV (C := j.1.cls) (bytes := j.2.1) (maxL := j.2.2.1) (ret := j.2.2.2) (n := n) ⟨hx, hb, hml, hown, hts⟩ (hM l V hV) ⟨⟨rfl, rfl, hrm.1, hrm.2, pay_in hts (wsOf_good hj.1), hcb, gl_ts hts hj.1.2.1, gl_ts hts hj.1.2.2.1, hj.1.2.2.2.1, hsig, gl_ts hts hl⟩, gl_ts hts hj.2.1, gl_ts hts hj.2.2.1⟩ hpre rfl (by rw [List.length_map]; exact hn) hl2.1 hst (lv_room (by rw [cat_map]; exact hcat)) hd hroom2
  · exact va_runVN (C := j.1.cls) (bytes := j.2.1) (maxL := j.2.2.1) (ret := j.2.2.2) (n := n) ⟨hx, hb, hml, hown, hts⟩ (hM l V hV) ⟨⟨⟨rfl, rfl, hrm.1, hrm.2, pay_in hts (wsOf_good hj.1), hcb⟩, gl_ts hts hj.1.2.1, gl_ts hts hj.1.2.2.1, hj.1.2.2.2.1, hsig, va_Nw.use rfl (hK.2.1 _ hl)⟩, gl_ts hts hj.2.1, gl_ts hts hj.2.2.1⟩ hpre rfl (by rw [List.length_map]; exact hn) hl2.1 hst (lv_room (by rw [cat_map]; exact hcat)) hd hroom2
theorem R_callS (hC : Cx m X) {j : mi} {n idx d dd mc ms mcX msX : Nat} {As : List Value} {Q : Option Value → aW → Prop} (hR : Rd X dd mcX msX) (hd : decode m.2.1 pc = .ok (.invokestatic idx, 3)) (hj : MS j n) (hl : ML m.1.cls idx j) (hM : Mt j d mc ms As w Q)
    (hn : As.length = n) (hdd : d + 1 ≤ dd) (hroom : cl + mc ≤ mcX ∧ sl + ms ≤ msX) (hcat : (st.map fun v => v.category).sum ≤ 8)
    (kk : ∀ (r : Option Value) (w' : aW), Q r w' → Rw m X (pc + 3) ls (r.toList ++ st) w' (cl + mc) (sl + ms)) : Rw m X pc ls (As.reverse ++ st) w cl sl := by
  obtain ⟨p, l, e, R, s, mm, args, below, meth, c, Z, V⟩ := X
  obtain ⟨hV, hx, hb, hml, hr, hlk, hown, hts, hK, hnm⟩ := hC
  obtain ⟨r1, r2, r3, r4⟩ := hR
  intro H locs la hH hL hl2
  have hcb : Cond.code j.1 j.2.1 j.2.2.1 j.2.2.2 ∈ wsOf j := List.mem_cons_self
  have hpre : PreS s H (aPc V As w) (As.map (rl V.2.2.1)) := ⟨aPc_blind, fun U hU hW => ⟨rfl, by rw [hU]; exact hH, hK.moved hW⟩⟩
  have hsig : ∀ sig, parseMethodDescriptor j.1.desc = some sig → n = sig.parameters.length := fun sig h => by
    have h2 := hj.2.2
    rw [h] at h2
    exact (Option.some.inj h2).symm
  have hst : (As.reverse ++ st).map (rl V.2.2.1) = (As.map (rl V.2.2.1)).reverse ++ st.map (rl V.2.2.1) := by
    rw [List.map_append, List.map_reverse]
  have hrm : (rmD d mc ms).frames + 1 ≤ R.frames ∧ 8 + (j.2.2.1 + 11) + (rmD d mc ms).locals ≤ R.locals := by
    have := hj.1.2.2.2.2
    constructor
    · show d + 1 ≤ _; omega
    · show 8 + (j.2.2.1 + 11) + (60 * d + 60) ≤ _; omega
  have hroom2 : cl + mc ≤ R.cells ∧ sl + ms ≤ R.slots := ⟨by omega, by omega⟩
  refine run_go (a := (As.map (rl V.2.2.1)).toArray) (Q := Q) hL ?_ (fun r w' hq H1 locs1 g1 g2 => kk r w' hq H1 locs1 la g1 g2 hl2)
  rcases hl with hl | ⟨host, hl⟩
  · exact va_runS (bytes := j.2.1) (maxL := j.2.2.1) (ret := j.2.2.2) (n := n) ⟨hx, hb, hml, hown, hts⟩ (hM l V hV) ⟨⟨rfl, rfl, hrm.1, hrm.2, pay_in hts (wsOf_good hj.1), hcb, gl_ts hts hj.1.2.1, gl_ts hts hj.1.2.2.1, hj.1.2.2.2.1, hsig, gl_ts hts hl⟩, gl_ts hts hj.2.1⟩ hpre rfl (by rw [List.length_map]; exact hn) hl2.1 hst (lv_room (by rw [cat_map]; exact hcat)) hd hroom2
  · exact va_runSN (bytes := j.2.1) (maxL := j.2.2.1) (ret := j.2.2.2) (n := n) ⟨hx, hb, hml, hown, hts⟩ (hM l V hV) ⟨⟨⟨rfl, rfl, hrm.1, hrm.2, pay_in hts (wsOf_good hj.1), hcb⟩, gl_ts hts hj.1.2.1, gl_ts hts hj.1.2.2.1, hj.1.2.2.2.1, hsig, va_Nw.use rfl (hK.2.1 _ hl)⟩, gl_ts hts hj.2.1, trivial⟩ hpre rfl (by rw [List.length_map]; exact hn) hl2.1 hst (lv_room (by rw [cat_map]; exact hcat)) hd hroom2
theorem R_callI (hC : Cx m X) {j : mi} {n idx a d dd mc ms mcX msX : Nat} {As : List Value} {Q : Option Value → aW → Prop} (hR : Rd X dd mcX msX) (hd : decode m.2.1 pc = .ok (.invokespecial idx, 3)) (hj : MN j n) (hl : ML m.1.cls idx j) (hM : Mt j d mc ms (.ref a :: As) w Q)
    (hn : As.length = n) (hdd : d + 1 ≤ dd) (hroom : cl + mc ≤ mcX ∧ sl + ms ≤ msX) (hcat : (st.map fun v => v.category).sum ≤ 8)
    (kk : ∀ (r : Option Value) (w' : aW), Q r w' → Rw m X (pc + 3) ls (r.toList ++ st) w' (cl + mc) (sl + ms)) : Rw m X pc ls (As.reverse ++ .ref a :: st) w cl sl := by
  obtain ⟨p, l, e, R, s, mm, args, below, meth, c, Z, V⟩ := X
  obtain ⟨hV, hx, hb, hml, hr, hlk, hown, hts, hK, hnm⟩ := hC
  obtain ⟨r1, r2, r3, r4⟩ := hR
  intro H locs la hH hL hl2
  have hcb : Cond.code j.1 j.2.1 j.2.2.1 none ∈ wsOf j := by rw [← hj.2.2.1]; exact List.mem_cons_self
  have hcg : Cond.code j.1 j.2.1 j.2.2.1 none ∈ lw_gl := by rw [← hj.2.2.1]; exact hj.1.2.1
  have hpre : PreS s H (aPc V (.ref a :: As) w) (.ref (V.2.2.1 a) :: As.map (rl V.2.2.1)) := ⟨aPc_blind, fun U hU hW => ⟨rfl, by rw [hU]; exact hH, hK.moved hW⟩⟩
  have hsig : ∀ sig, parseMethodDescriptor j.1.desc = some sig → n = sig.parameters.length := fun sig h => by
    have h2 := hj.2.2.2.2
    rw [h] at h2
    exact (Option.some.inj h2).symm
  have hst : (As.reverse ++ .ref a :: st).map (rl V.2.2.1) = (As.map (rl V.2.2.1)).reverse ++ .ref (V.2.2.1 a) :: st.map (rl V.2.2.1) := by
    rw [List.map_append, List.map_reverse]; rfl
  have hrm : (rmD d mc ms).frames + 1 ≤ R.frames ∧ 8 + (j.2.2.1 + 11) + (rmD d mc ms).locals ≤ R.locals := by
    have := hj.1.2.2.2.2
    constructor
    · show d + 1 ≤ _; omega
    · show 8 + (j.2.2.1 + 11) + (60 * d + 60) ≤ _; omega
  have hroom2 : cl + mc ≤ R.cells ∧ sl + ms ≤ R.slots := ⟨by omega, by omega⟩
  refine run_go (a := (Value.ref (V.2.2.1 a) :: As.map (rl V.2.2.1)).toArray) (Q := Q) hL ?_ (fun r w' hq H1 locs1 g1 g2 => kk r w' hq H1 locs1 la g1 g2 hl2)
  rcases hl with hl | ⟨host, hl⟩
  · exact va_runI (bytes := j.2.1) (maxL := j.2.2.1) (n := n) ⟨hx, hb, hml, hown, hts⟩ (hM l V hV) ⟨⟨rfl, rfl, hrm.1, hrm.2, pay_in hts (wsOf_good hj.1), hcb, gl_ts hts hcg, gl_ts hts hj.1.2.2.1, hj.1.2.2.2.1, hsig, gl_ts hts hl⟩, hj.2.1, gl_ts hts hj.2.2.2.1⟩ hpre rfl (by rw [List.length_map]; exact hn) hl2.1 hst (lv_room (by rw [cat_map]; exact hcat)) hd hroom2
  · exact va_runIN (bytes := j.2.1) (maxL := j.2.2.1) (n := n) ⟨hx, hb, hml, hown, hts⟩ (hM l V hV) ⟨⟨⟨rfl, rfl, hrm.1, hrm.2, pay_in hts (wsOf_good hj.1), hcb⟩, gl_ts hts hcg, gl_ts hts hj.1.2.2.1, hj.1.2.2.2.1, hsig, va_Nw.use rfl (hK.2.1 _ hl)⟩, hj.2.1, gl_ts hts hj.2.2.2.1⟩ hpre rfl (by rw [List.length_map]; exact hn) hl2.1 hst (lv_room (by rw [cat_map]; exact hcat)) hd hroom2
theorem R_obj (hC : Cx m X) {idx a dd mcX msX : Nat} (hR : Rd X dd mcX msX) (hd : decode m.2.1 pc = .ok (.invokespecial idx, 3)) (hdd : 1 ≤ dd) (hlink : Cond.methodLink m.1.cls idx Lib.objectInit ∈ lw_gl) (hinst : Cond.instanceMethod Lib.objectInit ∈ lw_gl) (hcode : Cond.code Lib.objectInit ⟨#[0xb1]⟩ 1 none ∈ lw_gl) (hcat : (st.map fun v => v.category).sum ≤ 8)
    (kk : Rw m X (pc + 3) ls st w cl sl) : Rw m X pc ls (.ref a :: st) w cl sl := by
  obtain ⟨p, l, e, R, s, mm, args, below, meth, c, Z, V⟩ := X
  obtain ⟨hV, hx, hb, hml, hr, hlk, hown, hts, hK, hnm⟩ := hC
  obtain ⟨r1, r2, r3, r4⟩ := hR
  intro H locs la hH hL hl
  refine W.objInit hx hb hown (gl_ts hts hlink) (gl_ts hts hinst) (gl_ts hts hcode) rfl (by rw [hml]; exact hl.1) rfl hd (by omega) ?_ (kk H locs la hH hL hl)
  show 2 * 0 + ((st.map (rl V.2.2.1)).map fun v => v.category).sum + 12 ≤ _
  rw [cat_map]; omega
theorem R_iret (hC : Cx m X) {Q : Option Value → aW → Prop} {v : Int32} (hT : Rt X cl sl Q) (hd : decode m.2.1 pc = .ok (.ireturn, 1)) (hret : m.2.2.2 = some .int) (hq : Q (some (.int v)) w) : Rw m X pc ls [.int v] w cl sl := by
  obtain ⟨p, l, e, R, s, mm, args, below, meth, c, Z, V⟩ := X
  obtain ⟨hV, hx, hb, hml, hr, hlk, hown, hts, hK, hnm⟩ := hC
  intro H locs la hH hL hl
  have hT : Z = MQ below (aQc V Q) args s cl sl (fr V) := hT
  subst hT
  exact W.iret hx hb (hr.trans hret) (fun t ht hW => ⟨some (.int v), w, rfl, hq, by rw [ht]; exact hH⟩) hL hd hlk
theorem R_zret (hC : Cx m X) {Q : Option Value → aW → Prop} {v : Int32} {ty : FieldType} (hT : Rt X cl sl Q) (hd : decode m.2.1 pc = .ok (.ireturn, 1)) (hret : m.2.2.2 = some ty) (hn : narrow ty (.int v) = .int v) (hq : Q (some (.int v)) w) : Rw m X pc ls [.int v] w cl sl := by
  obtain ⟨p, l, e, R, s, mm, args, below, meth, c, Z, V⟩ := X
  obtain ⟨hV, hx, hb, hml, hr, hlk, hown, hts, hK, hnm⟩ := hC
  intro H locs la hH hL hl
  have hT : Z = MQ below (aQc V Q) args s cl sl (fr V) := hT
  subst hT
  exact W.zret hx hb (hr.trans hret) hn (fun t ht hW => ⟨some (.int v), w, rfl, hq, by rw [ht]; exact hH⟩) hL hd hlk
theorem R_vret (hC : Cx m X) {Q : Option Value → aW → Prop} (hT : Rt X cl sl Q) (hd : decode m.2.1 pc = .ok (.return_, 1)) (hret : m.2.2.2 = none) (hq : Q none w) : Rw m X pc ls [] w cl sl := by
  obtain ⟨p, l, e, R, s, mm, args, below, meth, c, Z, V⟩ := X
  obtain ⟨hV, hx, hb, hml, hr, hlk, hown, hts, hK, hnm⟩ := hC
  intro H locs la hH hL hl
  have hT : Z = MQ below (aQc V Q) args s cl sl (fr V) := hT
  subst hT
  exact W.vret hx hb (hr.trans hret) (fun t ht hW => ⟨none, w, rfl, hq, by rw [ht]; exact hH⟩) hL hd hlk
theorem R_aret (hC : Cx m X) {Q : Option Value → aW → Prop} {a : Nat} {n : String} (hT : Rt X cl sl Q) (hd : decode m.2.1 pc = .ok (.areturn, 1)) (hret : m.2.2.2 = some (.object n)) (hq : Q (some (.ref a)) w) : Rw m X pc ls [.ref a] w cl sl := by
  obtain ⟨p, l, e, R, s, mm, args, below, meth, c, Z, V⟩ := X
  obtain ⟨hV, hx, hb, hml, hr, hlk, hown, hts, hK, hnm⟩ := hC
  intro H locs la hH hL hl
  have hT : Z = MQ below (aQc V Q) args s cl sl (fr V) := hT
  subst hT
  exact W.aret hx hb (hr.trans hret) (Or.inl ⟨n, rfl⟩) (Or.inr ⟨_, rfl⟩) (fun t ht hW => ⟨some (.ref a), w, rfl, hq, by rw [ht]; exact hH⟩) hL hd hlk
theorem R_widen {cl' sl' : Nat} (h1 : cl ≤ cl') (h2 : sl ≤ sl') (k : Rw m X pc ls st w cl' sl') : Rw m X pc ls st w cl sl := by
  obtain ⟨p, l, e, R, s, mm, args, below, meth, c, Z, V⟩ := X
  intro H locs la hH hL hl
  exact W.widen h1 h2 (k H locs la hH hL hl)
end CRULES
/-- the locals at a method's entry -/
def entL : List Value → List (Option Value)
  | [] => []
  | v :: t => if v.category = 2 then some v :: none :: entL t else some v :: entL t
def ent (as : List Value) (n : Nat) : List (Option Value) := entL as ++ List.replicate (n - (entL as).length) none
theorem lvl_none (r : Nat → Nat) : ∀ (n i : Nat), lvl r i (List.replicate n none) = []
  | 0, _ => rfl
  | n + 1, i => by rw [List.replicate_succ, lvl, lvl_none r n]
theorem lvl_ent (r : Nat → Nat) (n : Nat) : ∀ (as : List Value) (i : Nat), lvl r i (entL as ++ List.replicate n none) = lv_args i (as.map (rl r))
  | [], i => by simp [entL, lv_args, lvl_none]
  | v :: t, i => by
    rw [List.map_cons, lv_args, rl_cat]
    by_cases h : v.category = 2
    · simp only [entL, h, if_true, List.cons_append, lvl]
      rw [lvl_ent r n t]
    · simp only [entL, h, if_false, List.cons_append, lvl]
      rw [lvl_ent r n t]
theorem ent_len (r : Nat → Nat) : ∀ (as : List Value), (lg_sl (as.map (rl r))).length = (entL as).length
  | [] => rfl
  | v :: t => by
    have ih := ent_len r t
    simp only [lg_sl, List.map_cons, List.flatMap_cons, List.length_append] at ih ⊢
    rw [ih, rl_cat]
    by_cases h : v.category = 2
    · simp [entL, h]; omega
    · simp [entL, h]; omega
theorem Mt.of {m : mi} {d mc ms : Nat} {as : List Value} {w : aW} {Q : Option Value → aW → Prop} (hI : MI m) (hlen : (entL as).length ≤ m.2.2.1)
    (h : ∀ X : aX, Cx m X → Rd X d mc ms → Rt X mc ms Q → Rw m X 0 (ent as m.2.2.1) [] w 0 0) : Mt m d mc ms as w Q := by
  intro l V hV
  refine Met.ofW (cc := m.2.1) (maxL := m.2.2.1) (ret := m.2.2.2) hI.1 rfl ?_
  intro p e s mm args below meth c s₁ B hml hv
  obtain ⟨rfl, hH, hK⟩ := hv
  have hts := atoms_spec (ws := wsOf m) B.pre
  have hown : s.vm.findClass m.1.cls = some mm.cls := findClass_of_methodNamed B.named
  have hent := lv_entry (as.map (rl V.2.2.1)) (n := m.2.2.1) (by rw [ent_len]; exact hlen)
  have hk := h (p, l, e, (headSpec (wsOf m) (rmD d mc ms)).room, s, mm, (as.map (rl V.2.2.1)).toArray, below, meth, c, MQ below (aQc V Q) (as.map (rl V.2.2.1)).toArray s mc ms (fr V), V) ⟨hV, B.exec, B.bytes, hml, B.returns, B.notSynchronized, hown, hts, hK, (name_of_methodNamed B.named B.method).1⟩ ⟨Nat.le_refl _, Nat.le_refl _, Nat.le_refl _, Nat.le_refl _⟩ rfl
  rw [lg_entry_eq]
  refine hk s.heap [] _ hH (fun q hq => by cases hq) ?_
  unfold ent
  rw [lvl_ent]
  exact hent
end
section
theorem gmt {L : List Cond} (hL : ∀ w ∈ L, w ∈ lw_tbl) {w : Cond} (n : Nat) (h : L[n]? = some w) (hg : goodWord w = true) : w ∈ lw_gl := List.mem_filter.mpr ⟨hL w (List.mem_of_getElem? h), hg⟩
theorem nmt {L : List Cond} (hL : ∀ w ∈ L, w ∈ lw_tbl) {w : Cond} (n : Nat) (h : L[n]? = some w) (hg : is_nest w = true) : w ∈ lw_nl := List.mem_filter.mpr ⟨hL w (List.mem_of_getElem? h), hg⟩
theorem gms {L : List (MethodName × Nat)} (hL : ∀ q ∈ L, q ∈ lw_privs) {y : MethodName} {z : Nat} (n : Nat) (h : L[n]? = some (y, z)) : Cond.selects y.cls y y ∈ lw_gl := List.mem_filter.mpr ⟨List.mem_append_left _ (List.mem_map.mpr ⟨(y, z), hL _ (List.mem_of_getElem? h), rfl⟩), rfl⟩
theorem tc_1 : ∀ w ∈ tables_1_1, w ∈ lw_tbl := fun _ h => List.mem_append_right _ (List.mem_append_left _ h)
theorem tc_2 : ∀ w ∈ tables_1_2, w ∈ lw_tbl := fun _ h => List.mem_append_right _ (List.mem_append_right _ (List.mem_append_left _ h))
theorem tc_3 : ∀ w ∈ tables_1_3, w ∈ lw_tbl := fun _ h => List.mem_append_right _ (List.mem_append_right _ (List.mem_append_right _ (List.mem_append_left _ h)))
theorem tc_4 : ∀ w ∈ tables_1_4, w ∈ lw_tbl := fun _ h => List.mem_append_right _ (List.mem_append_right _ (List.mem_append_right _ (List.mem_append_right _ (List.mem_append_left _ h))))
theorem tc_5 : ∀ w ∈ tables_1_5, w ∈ lw_tbl := fun _ h => List.mem_append_right _ (List.mem_append_right _ (List.mem_append_right _ (List.mem_append_right _ (List.mem_append_right _ (List.mem_append_left _ h)))))
theorem tc_6 : ∀ w ∈ tables_1_6, w ∈ lw_tbl := fun _ h => List.mem_append_right _ (List.mem_append_right _ (List.mem_append_right _ (List.mem_append_right _ (List.mem_append_right _ (List.mem_append_right _ (List.mem_append_left _ h))))))
theorem tc_7 : ∀ w ∈ tables_1_7, w ∈ lw_tbl := fun _ h => List.mem_append_right _ (List.mem_append_right _ (List.mem_append_right _ (List.mem_append_right _ (List.mem_append_right _ (List.mem_append_right _ (List.mem_append_right _ (List.mem_append_left _ h)))))))
theorem tc_8 : ∀ w ∈ tables_1_8, w ∈ lw_tbl := fun _ h => List.mem_append_right _ (List.mem_append_right _ (List.mem_append_right _ (List.mem_append_right _ (List.mem_append_right _ (List.mem_append_right _ (List.mem_append_right _ (List.mem_append_right _ h)))))))
theorem pc_1 : ∀ q ∈ lw_privs_1, q ∈ lw_privs := fun _ h => (List.mem_append_left _ h)
theorem pc_2 : ∀ q ∈ lw_privs_2, q ∈ lw_privs := fun _ h => (List.mem_append_right _ (List.mem_append_left _ h))
theorem pc_3 : ∀ q ∈ lw_privs_3, q ∈ lw_privs := fun _ h => (List.mem_append_right _ (List.mem_append_right _ (List.mem_append_left _ h)))
theorem pc_4 : ∀ q ∈ lw_privs_4, q ∈ lw_privs := fun _ h => (List.mem_append_right _ (List.mem_append_right _ (List.mem_append_right _ (List.mem_append_left _ h))))
theorem pc_5 : ∀ q ∈ lw_privs_5, q ∈ lw_privs := fun _ h => (List.mem_append_right _ (List.mem_append_right _ (List.mem_append_right _ (List.mem_append_right _ (List.mem_append_left _ h)))))
theorem pc_6 : ∀ q ∈ lw_privs_6, q ∈ lw_privs := fun _ h => (List.mem_append_right _ (List.mem_append_right _ (List.mem_append_right _ (List.mem_append_right _ (List.mem_append_right _ (List.mem_append_left _ h))))))
theorem pc_7 : ∀ q ∈ lw_privs_7, q ∈ lw_privs := fun _ h => (List.mem_append_right _ (List.mem_append_right _ (List.mem_append_right _ (List.mem_append_right _ (List.mem_append_right _ (List.mem_append_right _ h))))))
theorem cw_X0 : ∀ w ∈ u_ws RX0 TX0 1, w ∈ lw_gl := by
  intro w hw
  obtain ⟨k, hk, rfl⟩ := List.mem_map.mp hw
  have hk := List.mem_range.mp hk
  match k, hk with
  | 0, _ => exact gmt tc_2 1 rfl (by decide +kernel)
  | k + 1, hk => exact absurd hk (by omega)
theorem cf_X0 : CF RX0 TX0 1 := ⟨cw_X0, ⟨tyX0, tyX0_ok⟩, nmX0⟩
theorem cw_X1 : ∀ w ∈ u_ws RX1 TX1 6, w ∈ lw_gl := by
  intro w hw
  obtain ⟨k, hk, rfl⟩ := List.mem_map.mp hw
  have hk := List.mem_range.mp hk
  match k, hk with
  | 0, _ => exact gmt tc_1 114 rfl (by decide +kernel)
  | 1, _ => exact gmt tc_1 116 rfl (by decide +kernel)
  | 2, _ => exact gmt tc_1 118 rfl (by decide +kernel)
  | 3, _ => exact gmt tc_1 120 rfl (by decide +kernel)
  | 4, _ => exact gmt tc_1 122 rfl (by decide +kernel)
  | 5, _ => exact gmt tc_1 124 rfl (by decide +kernel)
  | k + 6, hk => exact absurd hk (by omega)
theorem cf_X1 : CF RX1 TX1 6 := ⟨cw_X1, ⟨tyX1, tyX1_ok⟩, nmX1⟩
theorem cw_X2 : ∀ w ∈ u_ws RX2 TX2 3, w ∈ lw_gl := by
  intro w hw
  obtain ⟨k, hk, rfl⟩ := List.mem_map.mp hw
  have hk := List.mem_range.mp hk
  match k, hk with
  | 0, _ => exact gmt tc_1 91 rfl (by decide +kernel)
  | 1, _ => exact gmt tc_1 93 rfl (by decide +kernel)
  | 2, _ => exact gmt tc_1 95 rfl (by decide +kernel)
  | k + 3, hk => exact absurd hk (by omega)
theorem cf_X2 : CF RX2 TX2 3 := ⟨cw_X2, ⟨tyX2, tyX2_ok⟩, nmX2⟩
theorem cw_X3 : ∀ w ∈ u_ws RX3 TX3 3, w ∈ lw_gl := by
  intro w hw
  obtain ⟨k, hk, rfl⟩ := List.mem_map.mp hw
  have hk := List.mem_range.mp hk
  match k, hk with
  | 0, _ => exact gmt tc_1 226 rfl (by decide +kernel)
  | 1, _ => exact gmt tc_1 228 rfl (by decide +kernel)
  | 2, _ => exact gmt tc_1 230 rfl (by decide +kernel)
  | k + 3, hk => exact absurd hk (by omega)
theorem cf_X3 : CF RX3 TX3 3 := ⟨cw_X3, ⟨tyX3, tyX3_ok⟩, nmX3⟩
theorem cw_X4 : ∀ w ∈ u_ws RX4 TX4 5, w ∈ lw_gl := by
  intro w hw
  obtain ⟨k, hk, rfl⟩ := List.mem_map.mp hw
  have hk := List.mem_range.mp hk
  match k, hk with
  | 0, _ => exact gmt tc_2 19 rfl (by decide +kernel)
  | 1, _ => exact gmt tc_2 21 rfl (by decide +kernel)
  | 2, _ => exact gmt tc_2 23 rfl (by decide +kernel)
  | 3, _ => exact gmt tc_2 25 rfl (by decide +kernel)
  | 4, _ => exact gmt tc_2 27 rfl (by decide +kernel)
  | k + 5, hk => exact absurd hk (by omega)
theorem cf_X4 : CF RX4 TX4 5 := ⟨cw_X4, ⟨tyX4, tyX4_ok⟩, nmX4⟩
theorem cw_X5 : ∀ w ∈ u_ws RX5 TX5 7, w ∈ lw_gl := by
  intro w hw
  obtain ⟨k, hk, rfl⟩ := List.mem_map.mp hw
  have hk := List.mem_range.mp hk
  match k, hk with
  | 0, _ => exact gmt tc_1 200 rfl (by decide +kernel)
  | 1, _ => exact gmt tc_1 202 rfl (by decide +kernel)
  | 2, _ => exact gmt tc_1 204 rfl (by decide +kernel)
  | 3, _ => exact gmt tc_1 206 rfl (by decide +kernel)
  | 4, _ => exact gmt tc_1 208 rfl (by decide +kernel)
  | 5, _ => exact gmt tc_1 210 rfl (by decide +kernel)
  | 6, _ => exact gmt tc_1 212 rfl (by decide +kernel)
  | k + 7, hk => exact absurd hk (by omega)
theorem cf_X5 : CF RX5 TX5 7 := ⟨cw_X5, ⟨tyX5, tyX5_ok⟩, nmX5⟩
theorem cw_X6 : ∀ w ∈ u_ws RX6 TX6 8, w ∈ lw_gl := by
  intro w hw
  obtain ⟨k, hk, rfl⟩ := List.mem_map.mp hw
  have hk := List.mem_range.mp hk
  match k, hk with
  | 0, _ => exact gmt tc_1 169 rfl (by decide +kernel)
  | 1, _ => exact gmt tc_1 171 rfl (by decide +kernel)
  | 2, _ => exact gmt tc_1 173 rfl (by decide +kernel)
  | 3, _ => exact gmt tc_1 175 rfl (by decide +kernel)
  | 4, _ => exact gmt tc_1 177 rfl (by decide +kernel)
  | 5, _ => exact gmt tc_1 179 rfl (by decide +kernel)
  | 6, _ => exact gmt tc_1 181 rfl (by decide +kernel)
  | 7, _ => exact gmt tc_1 183 rfl (by decide +kernel)
  | k + 8, hk => exact absurd hk (by omega)
theorem cf_X6 : CF RX6 TX6 8 := ⟨cw_X6, ⟨tyX6, tyX6_ok⟩, nmX6⟩
theorem cw_X7 : ∀ w ∈ u_ws RX7 TX7 3, w ∈ lw_gl := by
  intro w hw
  obtain ⟨k, hk, rfl⟩ := List.mem_map.mp hw
  have hk := List.mem_range.mp hk
  match k, hk with
  | 0, _ => exact gmt tc_1 71 rfl (by decide +kernel)
  | 1, _ => exact gmt tc_1 73 rfl (by decide +kernel)
  | 2, _ => exact gmt tc_1 75 rfl (by decide +kernel)
  | k + 3, hk => exact absurd hk (by omega)
theorem cf_X7 : CF RX7 TX7 3 := ⟨cw_X7, ⟨tyX7, tyX7_ok⟩, nmX7⟩
theorem cw_X8 : ∀ w ∈ u_ws RX8 TX8 2, w ∈ lw_gl := by
  intro w hw
  obtain ⟨k, hk, rfl⟩ := List.mem_map.mp hw
  have hk := List.mem_range.mp hk
  match k, hk with
  | 0, _ => exact gmt tc_1 44 rfl (by decide +kernel)
  | 1, _ => exact gmt tc_1 46 rfl (by decide +kernel)
  | k + 2, hk => exact absurd hk (by omega)
theorem cf_X8 : CF RX8 TX8 2 := ⟨cw_X8, ⟨tyX8, tyX8_ok⟩, nmX8⟩
theorem cw_X9 : ∀ w ∈ u_ws RX9 TX9 5, w ∈ lw_gl := by
  intro w hw
  obtain ⟨k, hk, rfl⟩ := List.mem_map.mp hw
  have hk := List.mem_range.mp hk
  match k, hk with
  | 0, _ => exact gmt tc_1 141 rfl (by decide +kernel)
  | 1, _ => exact gmt tc_1 143 rfl (by decide +kernel)
  | 2, _ => exact gmt tc_1 145 rfl (by decide +kernel)
  | 3, _ => exact gmt tc_1 147 rfl (by decide +kernel)
  | 4, _ => exact gmt tc_1 149 rfl (by decide +kernel)
  | k + 5, hk => exact absurd hk (by omega)
theorem cf_X9 : CF RX9 TX9 5 := ⟨cw_X9, ⟨tyX9, tyX9_ok⟩, nmX9⟩
theorem cw_X10 : ∀ w ∈ u_ws RX10 TX10 19, w ∈ lw_gl := by
  intro w hw
  obtain ⟨k, hk, rfl⟩ := List.mem_map.mp hw
  have hk := List.mem_range.mp hk
  match k, hk with
  | 0, _ => exact gmt tc_2 49 rfl (by decide +kernel)
  | 1, _ => exact gmt tc_2 51 rfl (by decide +kernel)
  | 2, _ => exact gmt tc_2 53 rfl (by decide +kernel)
  | 3, _ => exact gmt tc_2 55 rfl (by decide +kernel)
  | 4, _ => exact gmt tc_2 57 rfl (by decide +kernel)
  | 5, _ => exact gmt tc_2 59 rfl (by decide +kernel)
  | 6, _ => exact gmt tc_2 61 rfl (by decide +kernel)
  | 7, _ => exact gmt tc_2 63 rfl (by decide +kernel)
  | 8, _ => exact gmt tc_2 65 rfl (by decide +kernel)
  | 9, _ => exact gmt tc_2 67 rfl (by decide +kernel)
  | 10, _ => exact gmt tc_2 69 rfl (by decide +kernel)
  | 11, _ => exact gmt tc_2 71 rfl (by decide +kernel)
  | 12, _ => exact gmt tc_2 73 rfl (by decide +kernel)
  | 13, _ => exact gmt tc_2 75 rfl (by decide +kernel)
  | 14, _ => exact gmt tc_2 77 rfl (by decide +kernel)
  | 15, _ => exact gmt tc_2 79 rfl (by decide +kernel)
  | 16, _ => exact gmt tc_2 81 rfl (by decide +kernel)
  | 17, _ => exact gmt tc_2 83 rfl (by decide +kernel)
  | 18, _ => exact gmt tc_2 85 rfl (by decide +kernel)
  | k + 19, hk => exact absurd hk (by omega)
theorem cf_X10 : CF RX10 TX10 19 := ⟨cw_X10, ⟨tyX10, tyX10_ok⟩, nmX10⟩
theorem cw_X11 : ∀ w ∈ u_ws RX11 TX11 35, w ∈ lw_gl := by
  intro w hw
  obtain ⟨k, hk, rfl⟩ := List.mem_map.mp hw
  have hk := List.mem_range.mp hk
  match k, hk with
  | 0, _ => exact gmt tc_5 231 rfl (by decide +kernel)
  | 1, _ => exact gmt tc_5 233 rfl (by decide +kernel)
  | 2, _ => exact gmt tc_5 235 rfl (by decide +kernel)
  | 3, _ => exact gmt tc_5 237 rfl (by decide +kernel)
  | 4, _ => exact gmt tc_5 239 rfl (by decide +kernel)
  | 5, _ => exact gmt tc_6 1 rfl (by decide +kernel)
  | 6, _ => exact gmt tc_6 3 rfl (by decide +kernel)
  | 7, _ => exact gmt tc_6 5 rfl (by decide +kernel)
  | 8, _ => exact gmt tc_6 7 rfl (by decide +kernel)
  | 9, _ => exact gmt tc_6 9 rfl (by decide +kernel)
  | 10, _ => exact gmt tc_6 11 rfl (by decide +kernel)
  | 11, _ => exact gmt tc_6 13 rfl (by decide +kernel)
  | 12, _ => exact gmt tc_6 15 rfl (by decide +kernel)
  | 13, _ => exact gmt tc_6 17 rfl (by decide +kernel)
  | 14, _ => exact gmt tc_6 19 rfl (by decide +kernel)
  | 15, _ => exact gmt tc_6 21 rfl (by decide +kernel)
  | 16, _ => exact gmt tc_6 23 rfl (by decide +kernel)
  | 17, _ => exact gmt tc_6 25 rfl (by decide +kernel)
  | 18, _ => exact gmt tc_6 27 rfl (by decide +kernel)
  | 19, _ => exact gmt tc_6 29 rfl (by decide +kernel)
  | 20, _ => exact gmt tc_6 31 rfl (by decide +kernel)
  | 21, _ => exact gmt tc_6 33 rfl (by decide +kernel)
  | 22, _ => exact gmt tc_6 35 rfl (by decide +kernel)
  | 23, _ => exact gmt tc_6 37 rfl (by decide +kernel)
  | 24, _ => exact gmt tc_6 39 rfl (by decide +kernel)
  | 25, _ => exact gmt tc_6 41 rfl (by decide +kernel)
  | 26, _ => exact gmt tc_6 43 rfl (by decide +kernel)
  | 27, _ => exact gmt tc_6 45 rfl (by decide +kernel)
  | 28, _ => exact gmt tc_6 47 rfl (by decide +kernel)
  | 29, _ => exact gmt tc_6 49 rfl (by decide +kernel)
  | 30, _ => exact gmt tc_6 51 rfl (by decide +kernel)
  | 31, _ => exact gmt tc_6 53 rfl (by decide +kernel)
  | 32, _ => exact gmt tc_6 55 rfl (by decide +kernel)
  | 33, _ => exact gmt tc_6 57 rfl (by decide +kernel)
  | 34, _ => exact gmt tc_6 59 rfl (by decide +kernel)
  | k + 35, hk => exact absurd hk (by omega)
theorem cf_X11 : CF RX11 TX11 35 := ⟨cw_X11, ⟨tyX11, tyX11_ok⟩, nmX11⟩
theorem gi_L : Cond.initialized RL ∈ lw_gl := gmt tc_1 0 rfl (by decide +kernel)
theorem gi_X10 : Cond.initialized RX10 ∈ lw_gl := gmt tc_1 1 rfl (by decide +kernel)
theorem gi_X8 : Cond.initialized RX8 ∈ lw_gl := gmt tc_1 2 rfl (by decide +kernel)
theorem gi_X7 : Cond.initialized RX7 ∈ lw_gl := gmt tc_1 3 rfl (by decide +kernel)
theorem gi_X2 : Cond.initialized RX2 ∈ lw_gl := gmt tc_1 4 rfl (by decide +kernel)
theorem gi_X1 : Cond.initialized RX1 ∈ lw_gl := gmt tc_1 5 rfl (by decide +kernel)
theorem gi_X9 : Cond.initialized RX9 ∈ lw_gl := gmt tc_1 6 rfl (by decide +kernel)
theorem gi_X6 : Cond.initialized RX6 ∈ lw_gl := gmt tc_1 7 rfl (by decide +kernel)
theorem gi_X5 : Cond.initialized RX5 ∈ lw_gl := gmt tc_1 8 rfl (by decide +kernel)
theorem gi_X3 : Cond.initialized RX3 ∈ lw_gl := gmt tc_1 9 rfl (by decide +kernel)
theorem gi_X0 : Cond.initialized RX0 ∈ lw_gl := gmt tc_1 10 rfl (by decide +kernel)
theorem gi_X4 : Cond.initialized RX4 ∈ lw_gl := gmt tc_1 11 rfl (by decide +kernel)
theorem gi_X11 : Cond.initialized RX11 ∈ lw_gl := gmt tc_1 12 rfl (by decide +kernel)
theorem gi_J0 : Cond.initialized RJ0 ∈ lw_gl := gmt tc_1 13 rfl (by decide +kernel)
theorem gi_J1 : Cond.initialized RJ1 ∈ lw_gl := gmt tc_1 14 rfl (by decide +kernel)
theorem gi_J9 : Cond.initialized RJ9 ∈ lw_gl := gmt tc_1 15 rfl (by decide +kernel)
theorem gi_J2 : Cond.initialized RJ2 ∈ lw_gl := gmt tc_1 16 rfl (by decide +kernel)
theorem gi_J3 : Cond.initialized RJ3 ∈ lw_gl := gmt tc_1 17 rfl (by decide +kernel)
theorem gi_J11 : Cond.initialized RJ11 ∈ lw_gl := gmt tc_1 18 rfl (by decide +kernel)
theorem gi_J10 : Cond.initialized RJ10 ∈ lw_gl := gmt tc_1 19 rfl (by decide +kernel)
theorem gi_J6 : Cond.initialized RJ6 ∈ lw_gl := gmt tc_1 24 rfl (by decide +kernel)
abbrev mX10_init : mi := (yX10_init, cX10_init, 2, none)
theorem MI_X10_init : MI mX10_init := ⟨(by decide +kernel), gmt tc_1 29 rfl (by decide +kernel), gi_X10, ⟨(by decide +kernel), (by decide +kernel)⟩, (by decide +kernel)⟩
theorem MN_X10_init : MN mX10_init 0 := ⟨MI_X10_init, (by decide +kernel), rfl, gmt tc_1 28 rfl (by decide +kernel), (by decide +kernel)⟩
abbrev mX8_init : mi := (yX8_init, cX8_init, 1, none)
theorem MI_X8_init : MI mX8_init := ⟨(by decide +kernel), gmt tc_1 37 rfl (by decide +kernel), gi_X8, ⟨(by decide +kernel), (by decide +kernel)⟩, (by decide +kernel)⟩
theorem MN_X8_init : MN mX8_init 0 := ⟨MI_X8_init, (by decide +kernel), rfl, gmt tc_1 36 rfl (by decide +kernel), (by decide +kernel)⟩
abbrev mX7_init : mi := (yX7_init, cX7_init, 1, none)
theorem MI_X7_init : MI mX7_init := ⟨(by decide +kernel), gmt tc_1 54 rfl (by decide +kernel), gi_X7, ⟨(by decide +kernel), (by decide +kernel)⟩, (by decide +kernel)⟩
theorem MN_X7_init : MN mX7_init 0 := ⟨MI_X7_init, (by decide +kernel), rfl, gmt tc_1 53 rfl (by decide +kernel), (by decide +kernel)⟩
abbrev mX2_init : mi := (yX2_init, cX2_init, 2, none)
theorem MI_X2_init : MI mX2_init := ⟨(by decide +kernel), gmt tc_1 82 rfl (by decide +kernel), gi_X2, ⟨(by decide +kernel), (by decide +kernel)⟩, (by decide +kernel)⟩
theorem MN_X2_init : MN mX2_init 0 := ⟨MI_X2_init, (by decide +kernel), rfl, gmt tc_1 81 rfl (by decide +kernel), (by decide +kernel)⟩
abbrev mX1_init : mi := (yX1_init, cX1_init, 1, none)
theorem MI_X1_init : MI mX1_init := ⟨(by decide +kernel), gmt tc_1 104 rfl (by decide +kernel), gi_X1, ⟨(by decide +kernel), (by decide +kernel)⟩, (by decide +kernel)⟩
theorem MN_X1_init : MN mX1_init 0 := ⟨MI_X1_init, (by decide +kernel), rfl, gmt tc_1 103 rfl (by decide +kernel), (by decide +kernel)⟩
abbrev mX9_init : mi := (yX9_init, cX9_init, 1, none)
theorem MI_X9_init : MI mX9_init := ⟨(by decide +kernel), gmt tc_1 131 rfl (by decide +kernel), gi_X9, ⟨(by decide +kernel), (by decide +kernel)⟩, (by decide +kernel)⟩
theorem MN_X9_init : MN mX9_init 0 := ⟨MI_X9_init, (by decide +kernel), rfl, gmt tc_1 130 rfl (by decide +kernel), (by decide +kernel)⟩
abbrev mX6_init : mi := (yX6_init, cX6_init, 1, none)
theorem MI_X6_init : MI mX6_init := ⟨(by decide +kernel), gmt tc_1 156 rfl (by decide +kernel), gi_X6, ⟨(by decide +kernel), (by decide +kernel)⟩, (by decide +kernel)⟩
theorem MN_X6_init : MN mX6_init 0 := ⟨MI_X6_init, (by decide +kernel), rfl, gmt tc_1 155 rfl (by decide +kernel), (by decide +kernel)⟩
abbrev mX5_init : mi := (yX5_init, cX5_init, 1, none)
theorem MI_X5_init : MI mX5_init := ⟨(by decide +kernel), gmt tc_1 190 rfl (by decide +kernel), gi_X5, ⟨(by decide +kernel), (by decide +kernel)⟩, (by decide +kernel)⟩
theorem MN_X5_init : MN mX5_init 0 := ⟨MI_X5_init, (by decide +kernel), rfl, gmt tc_1 189 rfl (by decide +kernel), (by decide +kernel)⟩
abbrev mX3_init : mi := (yX3_init, cX3_init, 1, none)
theorem MI_X3_init : MI mX3_init := ⟨(by decide +kernel), gmt tc_1 219 rfl (by decide +kernel), gi_X3, ⟨(by decide +kernel), (by decide +kernel)⟩, (by decide +kernel)⟩
theorem MN_X3_init : MN mX3_init 0 := ⟨MI_X3_init, (by decide +kernel), rfl, gmt tc_1 218 rfl (by decide +kernel), (by decide +kernel)⟩
abbrev mX0_init : mi := (yX0_init, cX0_init, 1, none)
theorem MI_X0_init : MI mX0_init := ⟨(by decide +kernel), gmt tc_1 237 rfl (by decide +kernel), gi_X0, ⟨(by decide +kernel), (by decide +kernel)⟩, (by decide +kernel)⟩
theorem MN_X0_init : MN mX0_init 0 := ⟨MI_X0_init, (by decide +kernel), rfl, gmt tc_1 236 rfl (by decide +kernel), (by decide +kernel)⟩
abbrev mX4_init : mi := (yX4_init, cX4_init, 1, none)
theorem MI_X4_init : MI mX4_init := ⟨(by decide +kernel), gmt tc_2 7 rfl (by decide +kernel), gi_X4, ⟨(by decide +kernel), (by decide +kernel)⟩, (by decide +kernel)⟩
theorem MN_X4_init : MN mX4_init 0 := ⟨MI_X4_init, (by decide +kernel), rfl, gmt tc_2 6 rfl (by decide +kernel), (by decide +kernel)⟩
abbrev mX10_feed : mi := (yX10_feed, cX10_feed, 7, (some .int))
theorem MI_X10_feed : MI mX10_feed := ⟨(by decide +kernel), gmt tc_2 91 rfl (by decide +kernel), gi_X10, ⟨(by decide +kernel), (by decide +kernel)⟩, (by decide +kernel)⟩
theorem MV_X10_feed : MV mX10_feed 5 := ⟨MI_X10_feed, gmt tc_2 89 rfl (by decide +kernel), gmt tc_2 90 rfl (by decide +kernel), (by decide +kernel)⟩
abbrev mX8_bytesIn : mi := (yX8_bytesIn, cX8_bytesIn, 3, (some .int))
theorem MI_X8_bytesIn : MI mX8_bytesIn := ⟨(by decide +kernel), gmt tc_2 94 rfl (by decide +kernel), gi_X8, ⟨(by decide +kernel), (by decide +kernel)⟩, (by decide +kernel)⟩
theorem MS_X8_bytesIn : MS mX8_bytesIn 1 := ⟨MI_X8_bytesIn, gmt tc_2 93 rfl (by decide +kernel), (by decide +kernel)⟩
abbrev mX8_append : mi := (yX8_append, cX8_append, 4, none)
theorem MI_X8_append : MI mX8_append := ⟨(by decide +kernel), gmt tc_2 98 rfl (by decide +kernel), gi_X8, ⟨(by decide +kernel), (by decide +kernel)⟩, (by decide +kernel)⟩
theorem MV_X8_append : MV mX8_append 1 := ⟨MI_X8_append, gmt tc_2 96 rfl (by decide +kernel), gmt tc_2 97 rfl (by decide +kernel), (by decide +kernel)⟩
abbrev mX10_end : mi := (yX10_end, cX10_end, 2, (some .boolean))
theorem MI_X10_end : MI mX10_end := ⟨(by decide +kernel), gmt tc_2 102 rfl (by decide +kernel), gi_X10, ⟨(by decide +kernel), (by decide +kernel)⟩, (by decide +kernel)⟩
theorem MV_X10_end : MV mX10_end 1 := ⟨MI_X10_end, gmt tc_2 100 rfl (by decide +kernel), gmt tc_2 101 rfl (by decide +kernel), (by decide +kernel)⟩
abbrev mX10_fault : mi := (yX10_fault, cX10_fault, 2, (some .int))
theorem MI_X10_fault : MI mX10_fault := ⟨(by decide +kernel), gmt tc_2 106 rfl (by decide +kernel), gi_X10, ⟨(by decide +kernel), (by decide +kernel)⟩, (by decide +kernel)⟩
theorem MV_X10_fault : MV mX10_fault 1 := ⟨MI_X10_fault, gmt tc_2 104 rfl (by decide +kernel), gmt tc_2 105 rfl (by decide +kernel), (by decide +kernel)⟩
abbrev mX7_read : mi := (yX7_read, cX7_read, 8, (some .int))
theorem MI_X7_read : MI mX7_read := ⟨(by decide +kernel), gmt tc_2 110 rfl (by decide +kernel), gi_X7, ⟨(by decide +kernel), (by decide +kernel)⟩, (by decide +kernel)⟩
theorem MV_X7_read : MV mX7_read 1 := ⟨MI_X7_read, gmt tc_2 108 rfl (by decide +kernel), gmt tc_2 109 rfl (by decide +kernel), (by decide +kernel)⟩
abbrev mX7_clear : mi := (yX7_clear, cX7_clear, 4, none)
theorem MI_X7_clear : MI mX7_clear := ⟨(by decide +kernel), gmt tc_2 114 rfl (by decide +kernel), gi_X7, ⟨(by decide +kernel), (by decide +kernel)⟩, (by decide +kernel)⟩
theorem MV_X7_clear : MV mX7_clear 2 := ⟨MI_X7_clear, gmt tc_2 112 rfl (by decide +kernel), gmt tc_2 113 rfl (by decide +kernel), (by decide +kernel)⟩
abbrev mX8_at : mi := (yX8_at, cX8_at, 2, (some .int))
theorem MI_X8_at : MI mX8_at := ⟨(by decide +kernel), gmt tc_2 118 rfl (by decide +kernel), gi_X8, ⟨(by decide +kernel), (by decide +kernel)⟩, (by decide +kernel)⟩
theorem MV_X8_at : MV mX8_at 1 := ⟨MI_X8_at, gmt tc_2 116 rfl (by decide +kernel), gmt tc_2 117 rfl (by decide +kernel), (by decide +kernel)⟩
abbrev mX10_valueOfSign : mi := (yX10_valueOfSign, cX10_valueOfSign, 1, (some .int))
theorem MI_X10_valueOfSign : MI mX10_valueOfSign := ⟨(by decide +kernel), gmt tc_2 121 rfl (by decide +kernel), gi_X10, ⟨(by decide +kernel), (by decide +kernel)⟩, (by decide +kernel)⟩
theorem MS_X10_valueOfSign : MS mX10_valueOfSign 1 := ⟨MI_X10_valueOfSign, gmt tc_2 120 rfl (by decide +kernel), (by decide +kernel)⟩
abbrev mX7_put : mi := (yX7_put, cX7_put, 4, none)
theorem MI_X7_put : MI mX7_put := ⟨(by decide +kernel), gmt tc_2 127 rfl (by decide +kernel), gi_X7, ⟨(by decide +kernel), (by decide +kernel)⟩, (by decide +kernel)⟩
theorem MV_X7_put : MV mX7_put 3 := ⟨MI_X7_put, gmt tc_2 125 rfl (by decide +kernel), gmt tc_2 126 rfl (by decide +kernel), (by decide +kernel)⟩
abbrev mX7_isRowFull : mi := (yX7_isRowFull, cX7_isRowFull, 3, (some .boolean))
theorem MI_X7_isRowFull : MI mX7_isRowFull := ⟨(by decide +kernel), gmt tc_2 130 rfl (by decide +kernel), gi_X7, ⟨(by decide +kernel), (by decide +kernel)⟩, (by decide +kernel)⟩
theorem MS_X7_isRowFull : MS mX7_isRowFull 3 := ⟨MI_X7_isRowFull, gmt tc_2 129 rfl (by decide +kernel), (by decide +kernel)⟩
abbrev mX4_read : mi := (yX4_read, cX4_read, 5, (some .int))
theorem MI_X4_read : MI mX4_read := ⟨(by decide +kernel), gmt tc_2 134 rfl (by decide +kernel), gi_X4, ⟨(by decide +kernel), (by decide +kernel)⟩, (by decide +kernel)⟩
theorem MV_X4_read : MV mX4_read 1 := ⟨MI_X4_read, gmt tc_2 132 rfl (by decide +kernel), gmt tc_2 133 rfl (by decide +kernel), (by decide +kernel)⟩
abbrev mX4_isWhole : mi := (yX4_isWhole, cX4_isWhole, 2, (some .boolean))
theorem MI_X4_isWhole : MI mX4_isWhole := ⟨(by decide +kernel), gmt tc_2 139 rfl (by decide +kernel), gi_X4, ⟨(by decide +kernel), (by decide +kernel)⟩, (by decide +kernel)⟩
theorem MV_X4_isWhole : MV mX4_isWhole 1 := ⟨MI_X4_isWhole, gmt tc_2 138 rfl (by decide +kernel), gms pc_1 0 rfl, (by decide +kernel)⟩
abbrev mX4_begins : mi := (yX4_begins, cX4_begins, 3, (some .boolean))
theorem MI_X4_begins : MI mX4_begins := ⟨(by decide +kernel), gmt tc_2 145 rfl (by decide +kernel), gi_X4, ⟨(by decide +kernel), (by decide +kernel)⟩, (by decide +kernel)⟩
theorem MV_X4_begins : MV mX4_begins 1 := ⟨MI_X4_begins, gmt tc_2 144 rfl (by decide +kernel), gms pc_1 1 rfl, (by decide +kernel)⟩
abbrev mJ0_indexOf_0f7a4 : mi := (yJ0_indexOf_0f7a4, cJ0_indexOf_0f7a4, 2, (some .int))
theorem MI_J0_indexOf_0f7a4 : MI mJ0_indexOf_0f7a4 := ⟨(by decide +kernel), gmt tc_2 150 rfl (by decide +kernel), gi_J0, ⟨(by decide +kernel), (by decide +kernel)⟩, (by decide +kernel)⟩
theorem MV_J0_indexOf_0f7a4 : MV mJ0_indexOf_0f7a4 1 := ⟨MI_J0_indexOf_0f7a4, gmt tc_2 148 rfl (by decide +kernel), gmt tc_2 149 rfl (by decide +kernel), (by decide +kernel)⟩
abbrev mJ0_indexOf_7cf53 : mi := (yJ0_indexOf_7cf53, cJ0_indexOf_7cf53, 3, (some .int))
theorem MI_J0_indexOf_7cf53 : MI mJ0_indexOf_7cf53 := ⟨(by decide +kernel), gmt tc_2 154 rfl (by decide +kernel), gi_J0, ⟨(by decide +kernel), (by decide +kernel)⟩, (by decide +kernel)⟩
theorem MV_J0_indexOf_7cf53 : MV mJ0_indexOf_7cf53 2 := ⟨MI_J0_indexOf_7cf53, gmt tc_2 152 rfl (by decide +kernel), gmt tc_2 153 rfl (by decide +kernel), (by decide +kernel)⟩
abbrev mJ0_isLatin1_aae02 : mi := (yJ0_isLatin1_aae02, cJ0_isLatin1_aae02, 1, (some .boolean))
theorem MI_J0_isLatin1_aae02 : MI mJ0_isLatin1_aae02 := ⟨(by decide +kernel), gmt tc_2 158 rfl (by decide +kernel), gi_J0, ⟨(by decide +kernel), (by decide +kernel)⟩, (by decide +kernel)⟩
theorem MV_J0_isLatin1_aae02 : MV mJ0_isLatin1_aae02 0 := ⟨MI_J0_isLatin1_aae02, gmt tc_2 156 rfl (by decide +kernel), gmt tc_2 157 rfl (by decide +kernel), (by decide +kernel)⟩
abbrev mJ0_length_8abf5 : mi := (yJ0_length_8abf5, cJ0_length_8abf5, 1, (some .int))
theorem MI_J0_length_8abf5 : MI mJ0_length_8abf5 := ⟨(by decide +kernel), gmt tc_2 164 rfl (by decide +kernel), gi_J0, ⟨(by decide +kernel), (by decide +kernel)⟩, (by decide +kernel)⟩
theorem MV_J0_length_8abf5 : MV mJ0_length_8abf5 0 := ⟨MI_J0_length_8abf5, gmt tc_2 162 rfl (by decide +kernel), gmt tc_2 163 rfl (by decide +kernel), (by decide +kernel)⟩
abbrev mJ0_coder_7d493 : mi := (yJ0_coder_7d493, cJ0_coder_7d493, 1, (some .byte))
theorem MI_J0_coder_7d493 : MI mJ0_coder_7d493 := ⟨(by decide +kernel), gmt tc_2 168 rfl (by decide +kernel), gi_J0, ⟨(by decide +kernel), (by decide +kernel)⟩, (by decide +kernel)⟩
theorem MV_J0_coder_7d493 : MV mJ0_coder_7d493 0 := ⟨MI_J0_coder_7d493, gmt tc_2 166 rfl (by decide +kernel), gmt tc_2 167 rfl (by decide +kernel), (by decide +kernel)⟩
abbrev mJ1_indexOf_4cfef : mi := (yJ1_indexOf_4cfef, cJ1_indexOf_4cfef, 4, (some .int))
theorem MI_J1_indexOf_4cfef : MI mJ1_indexOf_4cfef := ⟨(by decide +kernel), gmt tc_2 171 rfl (by decide +kernel), gi_J1, ⟨(by decide +kernel), (by decide +kernel)⟩, (by decide +kernel)⟩
theorem MS_J1_indexOf_4cfef : MS mJ1_indexOf_4cfef 4 := ⟨MI_J1_indexOf_4cfef, gmt tc_2 170 rfl (by decide +kernel), (by decide +kernel)⟩
abbrev mJ1_canEncode_9a6ad : mi := (yJ1_canEncode_9a6ad, cJ1_canEncode_9a6ad, 1, (some .boolean))
theorem MI_J1_canEncode_9a6ad : MI mJ1_canEncode_9a6ad := ⟨(by decide +kernel), gmt tc_2 174 rfl (by decide +kernel), gi_J1, ⟨(by decide +kernel), (by decide +kernel)⟩, (by decide +kernel)⟩
theorem MS_J1_canEncode_9a6ad : MS mJ1_canEncode_9a6ad 1 := ⟨MI_J1_canEncode_9a6ad, gmt tc_2 173 rfl (by decide +kernel), (by decide +kernel)⟩
abbrev mJ1_indexOfChar_4cfef : mi := (yJ1_indexOfChar_4cfef, cJ1_indexOfChar_4cfef, 6, (some .int))
theorem MI_J1_indexOfChar_4cfef : MI mJ1_indexOfChar_4cfef := ⟨(by decide +kernel), gmt tc_2 183 rfl (by decide +kernel), gi_J1, ⟨(by decide +kernel), (by decide +kernel)⟩, (by decide +kernel)⟩
theorem MS_J1_indexOfChar_4cfef : MS mJ1_indexOfChar_4cfef 4 := ⟨MI_J1_indexOfChar_4cfef, gmt tc_2 182 rfl (by decide +kernel), (by decide +kernel)⟩
abbrev mJ2_indexOf_4cfef : mi := (yJ2_indexOf_4cfef, cJ2_indexOf_4cfef, 4, (some .int))
theorem MI_J2_indexOf_4cfef : MI mJ2_indexOf_4cfef := ⟨(by decide +kernel), gmt tc_2 186 rfl (by decide +kernel), gi_J2, ⟨(by decide +kernel), (by decide +kernel)⟩, (by decide +kernel)⟩
theorem MS_J2_indexOf_4cfef : MS mJ2_indexOf_4cfef 4 := ⟨MI_J2_indexOf_4cfef, gmt tc_2 185 rfl (by decide +kernel), (by decide +kernel)⟩
abbrev mJ2_indexOfChar_4cfef : mi := (yJ2_indexOfChar_4cfef, cJ2_indexOfChar_4cfef, 4, (some .int))
theorem MI_J2_indexOfChar_4cfef : MI mJ2_indexOfChar_4cfef := ⟨(by decide +kernel), gmt tc_2 192 rfl (by decide +kernel), gi_J2, ⟨(by decide +kernel), (by decide +kernel)⟩, (by decide +kernel)⟩
theorem MS_J2_indexOfChar_4cfef : MS mJ2_indexOfChar_4cfef 4 := ⟨MI_J2_indexOfChar_4cfef, gmt tc_2 191 rfl (by decide +kernel), (by decide +kernel)⟩
abbrev mJ2_checkBoundsBeginEnd_d044e : mi := (yJ2_checkBoundsBeginEnd_d044e, cJ2_checkBoundsBeginEnd_d044e, 3, none)
theorem MI_J2_checkBoundsBeginEnd_d044e : MI mJ2_checkBoundsBeginEnd_d044e := ⟨(by decide +kernel), gmt tc_2 195 rfl (by decide +kernel), gi_J2, ⟨(by decide +kernel), (by decide +kernel)⟩, (by decide +kernel)⟩
theorem MS_J2_checkBoundsBeginEnd_d044e : MS mJ2_checkBoundsBeginEnd_d044e 3 := ⟨MI_J2_checkBoundsBeginEnd_d044e, gmt tc_2 194 rfl (by decide +kernel), (by decide +kernel)⟩
abbrev mJ2_length_9d52b : mi := (yJ2_length_9d52b, cJ2_length_9d52b, 1, (some .int))
theorem MI_J2_length_9d52b : MI mJ2_length_9d52b := ⟨(by decide +kernel), gmt tc_2 198 rfl (by decide +kernel), gi_J2, ⟨(by decide +kernel), (by decide +kernel)⟩, (by decide +kernel)⟩
theorem MS_J2_length_9d52b : MS mJ2_length_9d52b 1 := ⟨MI_J2_length_9d52b, gmt tc_2 197 rfl (by decide +kernel), (by decide +kernel)⟩
abbrev mJ0_checkBoundsBeginEnd_23922 : mi := (yJ0_checkBoundsBeginEnd_23922, cJ0_checkBoundsBeginEnd_23922, 3, none)
theorem MI_J0_checkBoundsBeginEnd_23922 : MI mJ0_checkBoundsBeginEnd_23922 := ⟨(by decide +kernel), gmt tc_2 201 rfl (by decide +kernel), gi_J0, ⟨(by decide +kernel), (by decide +kernel)⟩, (by decide +kernel)⟩
theorem MS_J0_checkBoundsBeginEnd_23922 : MS mJ0_checkBoundsBeginEnd_23922 3 := ⟨MI_J0_checkBoundsBeginEnd_23922, gmt tc_2 200 rfl (by decide +kernel), (by decide +kernel)⟩
abbrev mJ3_checkFromToIndex_8c36e : mi := (yJ3_checkFromToIndex_8c36e, cJ3_checkFromToIndex_8c36e, 4, (some .int))
theorem MI_J3_checkFromToIndex_8c36e : MI mJ3_checkFromToIndex_8c36e := ⟨(by decide +kernel), gmt tc_2 206 rfl (by decide +kernel), gi_J3, ⟨(by decide +kernel), (by decide +kernel)⟩, (by decide +kernel)⟩
theorem MS_J3_checkFromToIndex_8c36e : MS mJ3_checkFromToIndex_8c36e 4 := ⟨MI_J3_checkFromToIndex_8c36e, gmt tc_2 205 rfl (by decide +kernel), (by decide +kernel)⟩
abbrev mJ2_indexOfCharUnsafe_4cfef : mi := (yJ2_indexOfCharUnsafe_4cfef, cJ2_indexOfCharUnsafe_4cfef, 5, (some .int))
theorem MI_J2_indexOfCharUnsafe_4cfef : MI mJ2_indexOfCharUnsafe_4cfef := ⟨(by decide +kernel), gmt tc_2 209 rfl (by decide +kernel), gi_J2, ⟨(by decide +kernel), (by decide +kernel)⟩, (by decide +kernel)⟩
theorem MS_J2_indexOfCharUnsafe_4cfef : MS mJ2_indexOfCharUnsafe_4cfef 4 := ⟨MI_J2_indexOfCharUnsafe_4cfef, gmt tc_2 208 rfl (by decide +kernel), (by decide +kernel)⟩
abbrev mJ2_getChar_3b067 : mi := (yJ2_getChar_3b067, cJ2_getChar_3b067, 2, (some .char))
theorem MI_J2_getChar_3b067 : MI mJ2_getChar_3b067 := ⟨(by decide +kernel), gmt tc_2 212 rfl (by decide +kernel), gi_J2, ⟨(by decide +kernel), (by decide +kernel)⟩, (by decide +kernel)⟩
theorem MS_J2_getChar_3b067 : MS mJ2_getChar_3b067 2 := ⟨MI_J2_getChar_3b067, gmt tc_2 211 rfl (by decide +kernel), (by decide +kernel)⟩
abbrev mJ2_indexOfSupplementary_4cfef : mi := (yJ2_indexOfSupplementary_4cfef, cJ2_indexOfSupplementary_4cfef, 7, (some .int))
theorem MI_J2_indexOfSupplementary_4cfef : MI mJ2_indexOfSupplementary_4cfef := ⟨(by decide +kernel), gmt tc_2 221 rfl (by decide +kernel), gi_J2, ⟨(by decide +kernel), (by decide +kernel)⟩, (by decide +kernel)⟩
theorem MS_J2_indexOfSupplementary_4cfef : MS mJ2_indexOfSupplementary_4cfef 4 := ⟨MI_J2_indexOfSupplementary_4cfef, gmt tc_2 220 rfl (by decide +kernel), (by decide +kernel)⟩
abbrev mJ11_isValidCodePoint_9a6ad : mi := (yJ11_isValidCodePoint_9a6ad, cJ11_isValidCodePoint_9a6ad, 2, (some .boolean))
theorem MI_J11_isValidCodePoint_9a6ad : MI mJ11_isValidCodePoint_9a6ad := ⟨(by decide +kernel), gmt tc_2 224 rfl (by decide +kernel), gi_J11, ⟨(by decide +kernel), (by decide +kernel)⟩, (by decide +kernel)⟩
theorem MS_J11_isValidCodePoint_9a6ad : MS mJ11_isValidCodePoint_9a6ad 1 := ⟨MI_J11_isValidCodePoint_9a6ad, gmt tc_2 223 rfl (by decide +kernel), (by decide +kernel)⟩
abbrev mJ11_highSurrogate_5068e : mi := (yJ11_highSurrogate_5068e, cJ11_highSurrogate_5068e, 1, (some .char))
theorem MI_J11_highSurrogate_5068e : MI mJ11_highSurrogate_5068e := ⟨(by decide +kernel), gmt tc_2 227 rfl (by decide +kernel), gi_J11, ⟨(by decide +kernel), (by decide +kernel)⟩, (by decide +kernel)⟩
theorem MS_J11_highSurrogate_5068e : MS mJ11_highSurrogate_5068e 1 := ⟨MI_J11_highSurrogate_5068e, gmt tc_2 226 rfl (by decide +kernel), (by decide +kernel)⟩
abbrev mJ11_lowSurrogate_5068e : mi := (yJ11_lowSurrogate_5068e, cJ11_lowSurrogate_5068e, 1, (some .char))
theorem MI_J11_lowSurrogate_5068e : MI mJ11_lowSurrogate_5068e := ⟨(by decide +kernel), gmt tc_2 231 rfl (by decide +kernel), gi_J11, ⟨(by decide +kernel), (by decide +kernel)⟩, (by decide +kernel)⟩
theorem MS_J11_lowSurrogate_5068e : MS mJ11_lowSurrogate_5068e 1 := ⟨MI_J11_lowSurrogate_5068e, gmt tc_2 230 rfl (by decide +kernel), (by decide +kernel)⟩
abbrev mX4_goesOn : mi := (yX4_goesOn, cX4_goesOn, 4, (some .boolean))
theorem MI_X4_goesOn : MI mX4_goesOn := ⟨(by decide +kernel), gmt tc_2 237 rfl (by decide +kernel), gi_X4, ⟨(by decide +kernel), (by decide +kernel)⟩, (by decide +kernel)⟩
theorem MV_X4_goesOn : MV mX4_goesOn 2 := ⟨MI_X4_goesOn, gmt tc_2 236 rfl (by decide +kernel), gms pc_1 2 rfl, (by decide +kernel)⟩
abbrev mX10_text : mi := (yX10_text, cX10_text, 2, (some .int))
theorem MI_X10_text : MI mX10_text := ⟨(by decide +kernel), gmt tc_3 3 rfl (by decide +kernel), gi_X10, ⟨(by decide +kernel), (by decide +kernel)⟩, (by decide +kernel)⟩
theorem MV_X10_text : MV mX10_text 1 := ⟨MI_X10_text, gmt tc_3 1 rfl (by decide +kernel), gmt tc_3 2 rfl (by decide +kernel), (by decide +kernel)⟩
abbrev mX10_tableFromTape : mi := (yX10_tableFromTape, cX10_tableFromTape, 1, (some .int))
theorem MI_X10_tableFromTape : MI mX10_tableFromTape := ⟨(by decide +kernel), gmt tc_3 7 rfl (by decide +kernel), gi_X10, ⟨(by decide +kernel), (by decide +kernel)⟩, (by decide +kernel)⟩
theorem MV_X10_tableFromTape : MV mX10_tableFromTape 0 := ⟨MI_X10_tableFromTape, gmt tc_3 6 rfl (by decide +kernel), gms pc_1 3 rfl, (by decide +kernel)⟩
abbrev mX7_copyFrom : mi := (yX7_copyFrom, cX7_copyFrom, 2, none)
theorem MI_X7_copyFrom : MI mX7_copyFrom := ⟨(by decide +kernel), gmt tc_3 11 rfl (by decide +kernel), gi_X7, ⟨(by decide +kernel), (by decide +kernel)⟩, (by decide +kernel)⟩
theorem MV_X7_copyFrom : MV mX7_copyFrom 1 := ⟨MI_X7_copyFrom, gmt tc_3 9 rfl (by decide +kernel), gmt tc_3 10 rfl (by decide +kernel), (by decide +kernel)⟩
abbrev mX2_clear : mi := (yX2_clear, cX2_clear, 1, none)
theorem MI_X2_clear : MI mX2_clear := ⟨(by decide +kernel), gmt tc_3 18 rfl (by decide +kernel), gi_X2, ⟨(by decide +kernel), (by decide +kernel)⟩, (by decide +kernel)⟩
theorem MV_X2_clear : MV mX2_clear 0 := ⟨MI_X2_clear, gmt tc_3 16 rfl (by decide +kernel), gmt tc_3 17 rfl (by decide +kernel), (by decide +kernel)⟩
abbrev mX10_forget : mi := (yX10_forget, cX10_forget, 1, none)
theorem MI_X10_forget : MI mX10_forget := ⟨(by decide +kernel), gmt tc_3 22 rfl (by decide +kernel), gi_X10, ⟨(by decide +kernel), (by decide +kernel)⟩, (by decide +kernel)⟩
theorem MV_X10_forget : MV mX10_forget 0 := ⟨MI_X10_forget, gmt tc_3 21 rfl (by decide +kernel), gms pc_1 4 rfl, (by decide +kernel)⟩
abbrev mX10_scriptFromTape : mi := (yX10_scriptFromTape, cX10_scriptFromTape, 1, (some .int))
theorem MI_X10_scriptFromTape : MI mX10_scriptFromTape := ⟨(by decide +kernel), gmt tc_3 26 rfl (by decide +kernel), gi_X10, ⟨(by decide +kernel), (by decide +kernel)⟩, (by decide +kernel)⟩
theorem MV_X10_scriptFromTape : MV mX10_scriptFromTape 0 := ⟨MI_X10_scriptFromTape, gmt tc_3 25 rfl (by decide +kernel), gms pc_1 5 rfl, (by decide +kernel)⟩
abbrev mX10_change : mi := (yX10_change, cX10_change, 5, (some .int))
theorem MI_X10_change : MI mX10_change := ⟨(by decide +kernel), gmt tc_3 30 rfl (by decide +kernel), gi_X10, ⟨(by decide +kernel), (by decide +kernel)⟩, (by decide +kernel)⟩
theorem MV_X10_change : MV mX10_change 3 := ⟨MI_X10_change, gmt tc_3 28 rfl (by decide +kernel), gmt tc_3 29 rfl (by decide +kernel), (by decide +kernel)⟩
abbrev mX7_at : mi := (yX7_at, cX7_at, 3, (some .int))
theorem MI_X7_at : MI mX7_at := ⟨(by decide +kernel), gmt tc_3 34 rfl (by decide +kernel), gi_X7, ⟨(by decide +kernel), (by decide +kernel)⟩, (by decide +kernel)⟩
theorem MV_X7_at : MV mX7_at 2 := ⟨MI_X7_at, gmt tc_3 32 rfl (by decide +kernel), gmt tc_3 33 rfl (by decide +kernel), (by decide +kernel)⟩
abbrev mX10_attempt : mi := (yX10_attempt, cX10_attempt, 5, (some .int))
theorem MI_X10_attempt : MI mX10_attempt := ⟨(by decide +kernel), gmt tc_3 38 rfl (by decide +kernel), gi_X10, ⟨(by decide +kernel), (by decide +kernel)⟩, (by decide +kernel)⟩
theorem MV_X10_attempt : MV mX10_attempt 4 := ⟨MI_X10_attempt, gmt tc_3 37 rfl (by decide +kernel), gms pc_1 6 rfl, (by decide +kernel)⟩
abbrev mX7_isNone : mi := (yX7_isNone, cX7_isNone, 1, (some .boolean))
theorem MI_X7_isNone : MI mX7_isNone := ⟨(by decide +kernel), gmt tc_3 42 rfl (by decide +kernel), gi_X7, ⟨(by decide +kernel), (by decide +kernel)⟩, (by decide +kernel)⟩
theorem MV_X7_isNone : MV mX7_isNone 0 := ⟨MI_X7_isNone, gmt tc_3 40 rfl (by decide +kernel), gmt tc_3 41 rfl (by decide +kernel), (by decide +kernel)⟩
abbrev mX7_act : mi := (yX7_act, cX7_act, 5, (some .int))
theorem MI_X7_act : MI mX7_act := ⟨(by decide +kernel), gmt tc_3 46 rfl (by decide +kernel), gi_X7, ⟨(by decide +kernel), (by decide +kernel)⟩, (by decide +kernel)⟩
theorem MV_X7_act : MV mX7_act 4 := ⟨MI_X7_act, gmt tc_3 44 rfl (by decide +kernel), gmt tc_3 45 rfl (by decide +kernel), (by decide +kernel)⟩
abbrev mX7_negateRow : mi := (yX7_negateRow, cX7_negateRow, 3, (some .int))
theorem MI_X7_negateRow : MI mX7_negateRow := ⟨(by decide +kernel), gmt tc_3 50 rfl (by decide +kernel), gi_X7, ⟨(by decide +kernel), (by decide +kernel)⟩, (by decide +kernel)⟩
theorem MV_X7_negateRow : MV mX7_negateRow 1 := ⟨MI_X7_negateRow, gmt tc_3 49 rfl (by decide +kernel), gms pc_1 7 rfl, (by decide +kernel)⟩
abbrev mX7_has : mi := (yX7_has, cX7_has, 3, (some .boolean))
theorem MI_X7_has : MI mX7_has := ⟨(by decide +kernel), gmt tc_3 54 rfl (by decide +kernel), gi_X7, ⟨(by decide +kernel), (by decide +kernel)⟩, (by decide +kernel)⟩
theorem MV_X7_has : MV mX7_has 2 := ⟨MI_X7_has, gmt tc_3 52 rfl (by decide +kernel), gmt tc_3 53 rfl (by decide +kernel), (by decide +kernel)⟩
abbrev mX7_onColumns : mi := (yX7_onColumns, cX7_onColumns, 5, (some .int))
theorem MI_X7_onColumns : MI mX7_onColumns := ⟨(by decide +kernel), gmt tc_3 59 rfl (by decide +kernel), gi_X7, ⟨(by decide +kernel), (by decide +kernel)⟩, (by decide +kernel)⟩
theorem MV_X7_onColumns : MV mX7_onColumns 3 := ⟨MI_X7_onColumns, gmt tc_3 58 rfl (by decide +kernel), gms pc_1 8 rfl, (by decide +kernel)⟩
abbrev mX7_transpose : mi := (yX7_transpose, cX7_transpose, 4, (some .int))
theorem MI_X7_transpose : MI mX7_transpose := ⟨(by decide +kernel), gmt tc_3 63 rfl (by decide +kernel), gi_X7, ⟨(by decide +kernel), (by decide +kernel)⟩, (by decide +kernel)⟩
theorem MV_X7_transpose : MV mX7_transpose 0 := ⟨MI_X7_transpose, gmt tc_3 61 rfl (by decide +kernel), gmt tc_3 62 rfl (by decide +kernel), (by decide +kernel)⟩
abbrev mX7_changeRows : mi := (yX7_changeRows, cX7_changeRows, 5, (some .int))
theorem MI_X7_changeRows : MI mX7_changeRows := ⟨(by decide +kernel), gmt tc_3 67 rfl (by decide +kernel), gi_X7, ⟨(by decide +kernel), (by decide +kernel)⟩, (by decide +kernel)⟩
theorem MV_X7_changeRows : MV mX7_changeRows 2 := ⟨MI_X7_changeRows, gmt tc_3 66 rfl (by decide +kernel), gms pc_1 9 rfl, (by decide +kernel)⟩
abbrev mX7_dropRow : mi := (yX7_dropRow, cX7_dropRow, 4, (some .int))
theorem MI_X7_dropRow : MI mX7_dropRow := ⟨(by decide +kernel), gmt tc_3 71 rfl (by decide +kernel), gi_X7, ⟨(by decide +kernel), (by decide +kernel)⟩, (by decide +kernel)⟩
theorem MV_X7_dropRow : MV mX7_dropRow 1 := ⟨MI_X7_dropRow, gmt tc_3 70 rfl (by decide +kernel), gms pc_1 10 rfl, (by decide +kernel)⟩
abbrev mX7_turn : mi := (yX7_turn, cX7_turn, 6, (some .int))
theorem MI_X7_turn : MI mX7_turn := ⟨(by decide +kernel), gmt tc_3 75 rfl (by decide +kernel), gi_X7, ⟨(by decide +kernel), (by decide +kernel)⟩, (by decide +kernel)⟩
theorem MV_X7_turn : MV mX7_turn 2 := ⟨MI_X7_turn, gmt tc_3 74 rfl (by decide +kernel), gms pc_1 11 rfl, (by decide +kernel)⟩
abbrev mX7_canTurn : mi := (yX7_canTurn, cX7_canTurn, 6, (some .boolean))
theorem MI_X7_canTurn : MI mX7_canTurn := ⟨(by decide +kernel), gmt tc_3 79 rfl (by decide +kernel), gi_X7, ⟨(by decide +kernel), (by decide +kernel)⟩, (by decide +kernel)⟩
theorem MV_X7_canTurn : MV mX7_canTurn 2 := ⟨MI_X7_canTurn, gmt tc_3 78 rfl (by decide +kernel), gms pc_1 12 rfl, (by decide +kernel)⟩
abbrev mX10_isBeyond : mi := (yX10_isBeyond, cX10_isBeyond, 1, (some .boolean))
theorem MI_X10_isBeyond : MI mX10_isBeyond := ⟨(by decide +kernel), gmt tc_3 82 rfl (by decide +kernel), gi_X10, ⟨(by decide +kernel), (by decide +kernel)⟩, (by decide +kernel)⟩
theorem MS_X10_isBeyond : MS mX10_isBeyond 1 := ⟨MI_X10_isBeyond, gmt tc_3 81 rfl (by decide +kernel), (by decide +kernel)⟩
abbrev mX7_set : mi := (yX7_set, cX7_set, 4, (some .int))
theorem MI_X7_set : MI mX7_set := ⟨(by decide +kernel), gmt tc_3 86 rfl (by decide +kernel), gi_X7, ⟨(by decide +kernel), (by decide +kernel)⟩, (by decide +kernel)⟩
theorem MV_X7_set : MV mX7_set 3 := ⟨MI_X7_set, gmt tc_3 85 rfl (by decide +kernel), gms pc_1 13 rfl, (by decide +kernel)⟩
abbrev mX10_settle : mi := (yX10_settle, cX10_settle, 2, (some .int))
theorem MI_X10_settle : MI mX10_settle := ⟨(by decide +kernel), gmt tc_3 90 rfl (by decide +kernel), gi_X10, ⟨(by decide +kernel), (by decide +kernel)⟩, (by decide +kernel)⟩
theorem MV_X10_settle : MV mX10_settle 1 := ⟨MI_X10_settle, gmt tc_3 89 rfl (by decide +kernel), gms pc_1 14 rfl, (by decide +kernel)⟩
abbrev mX2_add : mi := (yX2_add, cX2_add, 2, none)
theorem MI_X2_add : MI mX2_add := ⟨(by decide +kernel), gmt tc_3 94 rfl (by decide +kernel), gi_X2, ⟨(by decide +kernel), (by decide +kernel)⟩, (by decide +kernel)⟩
theorem MV_X2_add : MV mX2_add 1 := ⟨MI_X2_add, gmt tc_3 92 rfl (by decide +kernel), gmt tc_3 93 rfl (by decide +kernel), (by decide +kernel)⟩
abbrev mX10_refused : mi := (yX10_refused, cX10_refused, 2, (some .boolean))
theorem MI_X10_refused : MI mX10_refused := ⟨(by decide +kernel), gmt tc_3 99 rfl (by decide +kernel), gi_X10, ⟨(by decide +kernel), (by decide +kernel)⟩, (by decide +kernel)⟩
theorem MV_X10_refused : MV mX10_refused 1 := ⟨MI_X10_refused, gmt tc_3 98 rfl (by decide +kernel), gms pc_1 15 rfl, (by decide +kernel)⟩
abbrev mX10_deal : mi := (yX10_deal, cX10_deal, 4, (some .int))
theorem MI_X10_deal : MI mX10_deal := ⟨(by decide +kernel), gmt tc_3 103 rfl (by decide +kernel), gi_X10, ⟨(by decide +kernel), (by decide +kernel)⟩, (by decide +kernel)⟩
theorem MV_X10_deal : MV mX10_deal 3 := ⟨MI_X10_deal, gmt tc_3 101 rfl (by decide +kernel), gmt tc_3 102 rfl (by decide +kernel), (by decide +kernel)⟩
abbrev mX10_actOfDeal : mi := (yX10_actOfDeal, cX10_actOfDeal, 1, (some .int))
theorem MI_X10_actOfDeal : MI mX10_actOfDeal := ⟨(by decide +kernel), gmt tc_3 106 rfl (by decide +kernel), gi_X10, ⟨(by decide +kernel), (by decide +kernel)⟩, (by decide +kernel)⟩
theorem MS_X10_actOfDeal : MS mX10_actOfDeal 1 := ⟨MI_X10_actOfDeal, gmt tc_3 105 rfl (by decide +kernel), (by decide +kernel)⟩
abbrev mX10_keep : mi := (yX10_keep, cX10_keep, 1, (some .int))
theorem MI_X10_keep : MI mX10_keep := ⟨(by decide +kernel), gmt tc_3 110 rfl (by decide +kernel), gi_X10, ⟨(by decide +kernel), (by decide +kernel)⟩, (by decide +kernel)⟩
theorem MV_X10_keep : MV mX10_keep 0 := ⟨MI_X10_keep, gmt tc_3 108 rfl (by decide +kernel), gmt tc_3 109 rfl (by decide +kernel), (by decide +kernel)⟩
abbrev mX10_kept : mi := (yX10_kept, cX10_kept, 4, (some .int))
theorem MI_X10_kept : MI mX10_kept := ⟨(by decide +kernel), gmt tc_3 114 rfl (by decide +kernel), gi_X10, ⟨(by decide +kernel), (by decide +kernel)⟩, (by decide +kernel)⟩
theorem MV_X10_kept : MV mX10_kept 3 := ⟨MI_X10_kept, gmt tc_3 112 rfl (by decide +kernel), gmt tc_3 113 rfl (by decide +kernel), (by decide +kernel)⟩
abbrev mX10_isKept : mi := (yX10_isKept, cX10_isKept, 2, (some .boolean))
theorem MI_X10_isKept : MI mX10_isKept := ⟨(by decide +kernel), gmt tc_3 118 rfl (by decide +kernel), gi_X10, ⟨(by decide +kernel), (by decide +kernel)⟩, (by decide +kernel)⟩
theorem MV_X10_isKept : MV mX10_isKept 1 := ⟨MI_X10_isKept, gmt tc_3 117 rfl (by decide +kernel), gms pc_2 0 rfl, (by decide +kernel)⟩
abbrev mX10_join : mi := (yX10_join, cX10_join, 4, (some .int))
theorem MI_X10_join : MI mX10_join := ⟨(by decide +kernel), gmt tc_3 123 rfl (by decide +kernel), gi_X10, ⟨(by decide +kernel), (by decide +kernel)⟩, (by decide +kernel)⟩
theorem MV_X10_join : MV mX10_join 3 := ⟨MI_X10_join, gmt tc_3 121 rfl (by decide +kernel), gmt tc_3 122 rfl (by decide +kernel), (by decide +kernel)⟩
abbrev mX10_attemptSum : mi := (yX10_attemptSum, cX10_attemptSum, 6, (some .int))
theorem MI_X10_attemptSum : MI mX10_attemptSum := ⟨(by decide +kernel), gmt tc_3 127 rfl (by decide +kernel), gi_X10, ⟨(by decide +kernel), (by decide +kernel)⟩, (by decide +kernel)⟩
theorem MV_X10_attemptSum : MV mX10_attemptSum 3 := ⟨MI_X10_attemptSum, gmt tc_3 126 rfl (by decide +kernel), gms pc_2 1 rfl, (by decide +kernel)⟩
abbrev mX7_becomeJoined : mi := (yX7_becomeJoined, cX7_becomeJoined, 8, (some .int))
theorem MI_X7_becomeJoined : MI mX7_becomeJoined := ⟨(by decide +kernel), gmt tc_3 131 rfl (by decide +kernel), gi_X7, ⟨(by decide +kernel), (by decide +kernel)⟩, (by decide +kernel)⟩
theorem MV_X7_becomeJoined : MV mX7_becomeJoined 2 := ⟨MI_X7_becomeJoined, gmt tc_3 129 rfl (by decide +kernel), gmt tc_3 130 rfl (by decide +kernel), (by decide +kernel)⟩
abbrev mX7_becomeLinked : mi := (yX7_becomeLinked, cX7_becomeLinked, 8, (some .int))
theorem MI_X7_becomeLinked : MI mX7_becomeLinked := ⟨(by decide +kernel), gmt tc_3 135 rfl (by decide +kernel), gi_X7, ⟨(by decide +kernel), (by decide +kernel)⟩, (by decide +kernel)⟩
theorem MV_X7_becomeLinked : MV mX7_becomeLinked 2 := ⟨MI_X7_becomeLinked, gmt tc_3 133 rfl (by decide +kernel), gmt tc_3 134 rfl (by decide +kernel), (by decide +kernel)⟩
abbrev mX7_linked : mi := (yX7_linked, cX7_linked, 5, (some .int))
theorem MI_X7_linked : MI mX7_linked := ⟨(by decide +kernel), gmt tc_3 138 rfl (by decide +kernel), gi_X7, ⟨(by decide +kernel), (by decide +kernel)⟩, (by decide +kernel)⟩
theorem MS_X7_linked : MS mX7_linked 4 := ⟨MI_X7_linked, gmt tc_3 137 rfl (by decide +kernel), (by decide +kernel)⟩
abbrev mX10_undo : mi := (yX10_undo, cX10_undo, 1, (some .int))
theorem MI_X10_undo : MI mX10_undo := ⟨(by decide +kernel), gmt tc_3 142 rfl (by decide +kernel), gi_X10, ⟨(by decide +kernel), (by decide +kernel)⟩, (by decide +kernel)⟩
theorem MV_X10_undo : MV mX10_undo 0 := ⟨MI_X10_undo, gmt tc_3 140 rfl (by decide +kernel), gmt tc_3 141 rfl (by decide +kernel), (by decide +kernel)⟩
abbrev mX2_takeBack : mi := (yX2_takeBack, cX2_takeBack, 2, none)
theorem MI_X2_takeBack : MI mX2_takeBack := ⟨(by decide +kernel), gmt tc_3 146 rfl (by decide +kernel), gi_X2, ⟨(by decide +kernel), (by decide +kernel)⟩, (by decide +kernel)⟩
theorem MV_X2_takeBack : MV mX2_takeBack 1 := ⟨MI_X2_takeBack, gmt tc_3 144 rfl (by decide +kernel), gmt tc_3 145 rfl (by decide +kernel), (by decide +kernel)⟩
abbrev mX10_det : mi := (yX10_det, cX10_det, 3, (some .int))
theorem MI_X10_det : MI mX10_det := ⟨(by decide +kernel), gmt tc_3 150 rfl (by decide +kernel), gi_X10, ⟨(by decide +kernel), (by decide +kernel)⟩, (by decide +kernel)⟩
theorem MV_X10_det : MV mX10_det 2 := ⟨MI_X10_det, gmt tc_3 148 rfl (by decide +kernel), gmt tc_3 149 rfl (by decide +kernel), (by decide +kernel)⟩
abbrev mX7_hasRowSet : mi := (yX7_hasRowSet, cX7_hasRowSet, 2, (some .boolean))
theorem MI_X7_hasRowSet : MI mX7_hasRowSet := ⟨(by decide +kernel), gmt tc_3 154 rfl (by decide +kernel), gi_X7, ⟨(by decide +kernel), (by decide +kernel)⟩, (by decide +kernel)⟩
theorem MV_X7_hasRowSet : MV mX7_hasRowSet 1 := ⟨MI_X7_hasRowSet, gmt tc_3 152 rfl (by decide +kernel), gmt tc_3 153 rfl (by decide +kernel), (by decide +kernel)⟩
abbrev mX7_hasColumnSet : mi := (yX7_hasColumnSet, cX7_hasColumnSet, 2, (some .boolean))
theorem MI_X7_hasColumnSet : MI mX7_hasColumnSet := ⟨(by decide +kernel), gmt tc_3 158 rfl (by decide +kernel), gi_X7, ⟨(by decide +kernel), (by decide +kernel)⟩, (by decide +kernel)⟩
theorem MV_X7_hasColumnSet : MV mX7_hasColumnSet 1 := ⟨MI_X7_hasColumnSet, gmt tc_3 156 rfl (by decide +kernel), gmt tc_3 157 rfl (by decide +kernel), (by decide +kernel)⟩
abbrev mJ6_bitCount_0f7a4 : mi := (yJ6_bitCount_0f7a4, cJ6_bitCount_0f7a4, 1, (some .int))
theorem MI_J6_bitCount_0f7a4 : MI mJ6_bitCount_0f7a4 := ⟨(by decide +kernel), gmt tc_3 161 rfl (by decide +kernel), gi_J6, ⟨(by decide +kernel), (by decide +kernel)⟩, (by decide +kernel)⟩
theorem MS_J6_bitCount_0f7a4 : MS mJ6_bitCount_0f7a4 1 := ⟨MI_J6_bitCount_0f7a4, gmt tc_3 160 rfl (by decide +kernel), (by decide +kernel)⟩
abbrev mX10_knownMinors : mi := (yX10_knownMinors, cX10_knownMinors, 1, (some (.object "UnimodularTables$Minors")))
theorem MI_X10_knownMinors : MI mX10_knownMinors := ⟨(by decide +kernel), gmt tc_3 168 rfl (by decide +kernel), gi_X10, ⟨(by decide +kernel), (by decide +kernel)⟩, (by decide +kernel)⟩
theorem MV_X10_knownMinors : MV mX10_knownMinors 0 := ⟨MI_X10_knownMinors, gmt tc_3 167 rfl (by decide +kernel), gms pc_2 2 rfl, (by decide +kernel)⟩
abbrev mX1_reckon : mi := (yX1_reckon, cX1_reckon, 6, none)
theorem MI_X1_reckon : MI mX1_reckon := ⟨(by decide +kernel), gmt tc_3 172 rfl (by decide +kernel), gi_X1, ⟨(by decide +kernel), (by decide +kernel)⟩, (by decide +kernel)⟩
theorem MV_X1_reckon : MV mX1_reckon 1 := ⟨MI_X1_reckon, gmt tc_3 170 rfl (by decide +kernel), gmt tc_3 171 rfl (by decide +kernel), (by decide +kernel)⟩
abbrev mX1_expanded : mi := (yX1_expanded, cX1_expanded, 10, (some .int))
theorem MI_X1_expanded : MI mX1_expanded := ⟨(by decide +kernel), gmt tc_3 177 rfl (by decide +kernel), gi_X1, ⟨(by decide +kernel), (by decide +kernel)⟩, (by decide +kernel)⟩
theorem MV_X1_expanded : MV mX1_expanded 3 := ⟨MI_X1_expanded, gmt tc_3 176 rfl (by decide +kernel), gms pc_2 3 rfl, (by decide +kernel)⟩
abbrev mX10_isIn : mi := (yX10_isIn, cX10_isIn, 2, (some .boolean))
theorem MI_X10_isIn : MI mX10_isIn := ⟨(by decide +kernel), gmt tc_3 180 rfl (by decide +kernel), gi_X10, ⟨(by decide +kernel), (by decide +kernel)⟩, (by decide +kernel)⟩
theorem MS_X10_isIn : MS mX10_isIn 2 := ⟨MI_X10_isIn, gmt tc_3 179 rfl (by decide +kernel), (by decide +kernel)⟩
abbrev mX1_of : mi := (yX1_of, cX1_of, 3, (some .int))
theorem MI_X1_of : MI mX1_of := ⟨(by decide +kernel), gmt tc_3 185 rfl (by decide +kernel), gi_X1, ⟨(by decide +kernel), (by decide +kernel)⟩, (by decide +kernel)⟩
theorem MV_X1_of : MV mX1_of 2 := ⟨MI_X1_of, gmt tc_3 183 rfl (by decide +kernel), gmt tc_3 184 rfl (by decide +kernel), (by decide +kernel)⟩
abbrev mX1_noteBeyond : mi := (yX1_noteBeyond, cX1_noteBeyond, 3, none)
theorem MI_X1_noteBeyond : MI mX1_noteBeyond := ⟨(by decide +kernel), gmt tc_3 190 rfl (by decide +kernel), gi_X1, ⟨(by decide +kernel), (by decide +kernel)⟩, (by decide +kernel)⟩
theorem MV_X1_noteBeyond : MV mX1_noteBeyond 2 := ⟨MI_X1_noteBeyond, gmt tc_3 189 rfl (by decide +kernel), gms pc_2 4 rfl, (by decide +kernel)⟩
abbrev mX10_squares : mi := (yX10_squares, cX10_squares, 3, (some .int))
theorem MI_X10_squares : MI mX10_squares := ⟨(by decide +kernel), gmt tc_3 195 rfl (by decide +kernel), gi_X10, ⟨(by decide +kernel), (by decide +kernel)⟩, (by decide +kernel)⟩
theorem MV_X10_squares : MV mX10_squares 2 := ⟨MI_X10_squares, gmt tc_3 193 rfl (by decide +kernel), gmt tc_3 194 rfl (by decide +kernel), (by decide +kernel)⟩
abbrev mX1_howMany : mi := (yX1_howMany, cX1_howMany, 6, (some .int))
theorem MI_X1_howMany : MI mX1_howMany := ⟨(by decide +kernel), gmt tc_3 199 rfl (by decide +kernel), gi_X1, ⟨(by decide +kernel), (by decide +kernel)⟩, (by decide +kernel)⟩
theorem MV_X1_howMany : MV mX1_howMany 2 := ⟨MI_X1_howMany, gmt tc_3 197 rfl (by decide +kernel), gmt tc_3 198 rfl (by decide +kernel), (by decide +kernel)⟩
abbrev mX1_sortOf : mi := (yX1_sortOf, cX1_sortOf, 1, (some .int))
theorem MI_X1_sortOf : MI mX1_sortOf := ⟨(by decide +kernel), gmt tc_3 202 rfl (by decide +kernel), gi_X1, ⟨(by decide +kernel), (by decide +kernel)⟩, (by decide +kernel)⟩
theorem MS_X1_sortOf : MS mX1_sortOf 1 := ⟨MI_X1_sortOf, gmt tc_3 201 rfl (by decide +kernel), (by decide +kernel)⟩
abbrev mX10_total : mi := (yX10_total, cX10_total, 1, (some .int))
theorem MI_X10_total : MI mX10_total := ⟨(by decide +kernel), gmt tc_3 206 rfl (by decide +kernel), gi_X10, ⟨(by decide +kernel), (by decide +kernel)⟩, (by decide +kernel)⟩
theorem MV_X10_total : MV mX10_total 0 := ⟨MI_X10_total, gmt tc_3 204 rfl (by decide +kernel), gmt tc_3 205 rfl (by decide +kernel), (by decide +kernel)⟩
abbrev mX1_allWithin : mi := (yX1_allWithin, cX1_allWithin, 1, (some .boolean))
theorem MI_X1_allWithin : MI mX1_allWithin := ⟨(by decide +kernel), gmt tc_3 210 rfl (by decide +kernel), gi_X1, ⟨(by decide +kernel), (by decide +kernel)⟩, (by decide +kernel)⟩
theorem MV_X1_allWithin : MV mX1_allWithin 0 := ⟨MI_X1_allWithin, gmt tc_3 208 rfl (by decide +kernel), gmt tc_3 209 rfl (by decide +kernel), (by decide +kernel)⟩
abbrev mX10_witness : mi := (yX10_witness, cX10_witness, 2, (some .int))
theorem MI_X10_witness : MI mX10_witness := ⟨(by decide +kernel), gmt tc_3 214 rfl (by decide +kernel), gi_X10, ⟨(by decide +kernel), (by decide +kernel)⟩, (by decide +kernel)⟩
theorem MV_X10_witness : MV mX10_witness 1 := ⟨MI_X10_witness, gmt tc_3 212 rfl (by decide +kernel), gmt tc_3 213 rfl (by decide +kernel), (by decide +kernel)⟩
abbrev mX10_halves : mi := (yX10_halves, cX10_halves, 2, (some .int))
theorem MI_X10_halves : MI mX10_halves := ⟨(by decide +kernel), gmt tc_3 218 rfl (by decide +kernel), gi_X10, ⟨(by decide +kernel), (by decide +kernel)⟩, (by decide +kernel)⟩
theorem MV_X10_halves : MV mX10_halves 1 := ⟨MI_X10_halves, gmt tc_3 216 rfl (by decide +kernel), gmt tc_3 217 rfl (by decide +kernel), (by decide +kernel)⟩
abbrev mX7_halved : mi := (yX7_halved, cX7_halved, 3, (some .int))
theorem MI_X7_halved : MI mX7_halved := ⟨(by decide +kernel), gmt tc_3 222 rfl (by decide +kernel), gi_X7, ⟨(by decide +kernel), (by decide +kernel)⟩, (by decide +kernel)⟩
theorem MV_X7_halved : MV mX7_halved 1 := ⟨MI_X7_halved, gmt tc_3 220 rfl (by decide +kernel), gmt tc_3 221 rfl (by decide +kernel), (by decide +kernel)⟩
abbrev mX7_halvesAll : mi := (yX7_halvesAll, cX7_halvesAll, 6, (some .boolean))
theorem MI_X7_halvesAll : MI mX7_halvesAll := ⟨(by decide +kernel), gmt tc_3 226 rfl (by decide +kernel), gi_X7, ⟨(by decide +kernel), (by decide +kernel)⟩, (by decide +kernel)⟩
theorem MV_X7_halvesAll : MV mX7_halvesAll 2 := ⟨MI_X7_halvesAll, gmt tc_3 225 rfl (by decide +kernel), gms pc_2 5 rfl, (by decide +kernel)⟩
abbrev mX10_unhalved : mi := (yX10_unhalved, cX10_unhalved, 2, (some .int))
theorem MI_X10_unhalved : MI mX10_unhalved := ⟨(by decide +kernel), gmt tc_3 231 rfl (by decide +kernel), gi_X10, ⟨(by decide +kernel), (by decide +kernel)⟩, (by decide +kernel)⟩
theorem MV_X10_unhalved : MV mX10_unhalved 0 := ⟨MI_X10_unhalved, gmt tc_3 229 rfl (by decide +kernel), gmt tc_3 230 rfl (by decide +kernel), (by decide +kernel)⟩
abbrev mX10_network : mi := (yX10_network, cX10_network, 2, (some .int))
theorem MI_X10_network : MI mX10_network := ⟨(by decide +kernel), gmt tc_3 235 rfl (by decide +kernel), gi_X10, ⟨(by decide +kernel), (by decide +kernel)⟩, (by decide +kernel)⟩
theorem MV_X10_network : MV mX10_network 1 := ⟨MI_X10_network, gmt tc_3 233 rfl (by decide +kernel), gmt tc_3 234 rfl (by decide +kernel), (by decide +kernel)⟩
abbrev mX10_hasSide : mi := (yX10_hasSide, cX10_hasSide, 2, (some .boolean))
theorem MI_X10_hasSide : MI mX10_hasSide := ⟨(by decide +kernel), gmt tc_3 239 rfl (by decide +kernel), gi_X10, ⟨(by decide +kernel), (by decide +kernel)⟩, (by decide +kernel)⟩
theorem MV_X10_hasSide : MV mX10_hasSide 1 := ⟨MI_X10_hasSide, gmt tc_3 238 rfl (by decide +kernel), gms pc_2 6 rfl, (by decide +kernel)⟩
abbrev mX10_knownTree : mi := (yX10_knownTree, cX10_knownTree, 3, (some (.object "UnimodularTables$Tree")))
theorem MI_X10_knownTree : MI mX10_knownTree := ⟨(by decide +kernel), gmt tc_4 3 rfl (by decide +kernel), gi_X10, ⟨(by decide +kernel), (by decide +kernel)⟩, (by decide +kernel)⟩
theorem MV_X10_knownTree : MV mX10_knownTree 1 := ⟨MI_X10_knownTree, gmt tc_4 2 rfl (by decide +kernel), gms pc_2 7 rfl, (by decide +kernel)⟩
abbrev mX9_seek : mi := (yX9_seek, cX9_seek, 4, none)
theorem MI_X9_seek : MI mX9_seek := ⟨(by decide +kernel), gmt tc_4 7 rfl (by decide +kernel), gi_X9, ⟨(by decide +kernel), (by decide +kernel)⟩, (by decide +kernel)⟩
theorem MV_X9_seek : MV mX9_seek 3 := ⟨MI_X9_seek, gmt tc_4 5 rfl (by decide +kernel), gmt tc_4 6 rfl (by decide +kernel), (by decide +kernel)⟩
abbrev mX9_grow : mi := (yX9_grow, cX9_grow, 5, (some .boolean))
theorem MI_X9_grow : MI mX9_grow := ⟨(by decide +kernel), gmt tc_4 13 rfl (by decide +kernel), gi_X9, ⟨(by decide +kernel), (by decide +kernel)⟩, (by decide +kernel)⟩
theorem MV_X9_grow : MV mX9_grow 1 := ⟨MI_X9_grow, gmt tc_4 12 rfl (by decide +kernel), gms pc_2 8 rfl, (by decide +kernel)⟩
abbrev mX9_arcsAt : mi := (yX9_arcsAt, cX9_arcsAt, 5, (some .int))
theorem MI_X9_arcsAt : MI mX9_arcsAt := ⟨(by decide +kernel), gmt tc_4 17 rfl (by decide +kernel), gi_X9, ⟨(by decide +kernel), (by decide +kernel)⟩, (by decide +kernel)⟩
theorem MV_X9_arcsAt : MV mX9_arcsAt 2 := ⟨MI_X9_arcsAt, gmt tc_4 16 rfl (by decide +kernel), gms pc_2 9 rfl, (by decide +kernel)⟩
abbrev mX9_isNew : mi := (yX9_isNew, cX9_isNew, 2, (some .boolean))
theorem MI_X9_isNew : MI mX9_isNew := ⟨(by decide +kernel), gmt tc_4 20 rfl (by decide +kernel), gi_X9, ⟨(by decide +kernel), (by decide +kernel)⟩, (by decide +kernel)⟩
theorem MS_X9_isNew : MS mX9_isNew 2 := ⟨MI_X9_isNew, gmt tc_4 19 rfl (by decide +kernel), (by decide +kernel)⟩
abbrev mX9_growBy : mi := (yX9_growBy, cX9_growBy, 6, (some .boolean))
theorem MI_X9_growBy : MI mX9_growBy := ⟨(by decide +kernel), gmt tc_4 24 rfl (by decide +kernel), gi_X9, ⟨(by decide +kernel), (by decide +kernel)⟩, (by decide +kernel)⟩
theorem MV_X9_growBy : MV mX9_growBy 4 := ⟨MI_X9_growBy, gmt tc_4 23 rfl (by decide +kernel), gms pc_2 10 rfl, (by decide +kernel)⟩
abbrev mX9_moveEnds : mi := (yX9_moveEnds, cX9_moveEnds, 5, none)
theorem MI_X9_moveEnds : MI mX9_moveEnds := ⟨(by decide +kernel), gmt tc_4 28 rfl (by decide +kernel), gi_X9, ⟨(by decide +kernel), (by decide +kernel)⟩, (by decide +kernel)⟩
theorem MV_X9_moveEnds : MV mX9_moveEnds 3 := ⟨MI_X9_moveEnds, gmt tc_4 27 rfl (by decide +kernel), gms pc_2 11 rfl, (by decide +kernel)⟩
abbrev mX9_areWays : mi := (yX9_areWays, cX9_areWays, 3, (some .boolean))
theorem MI_X9_areWays : MI mX9_areWays := ⟨(by decide +kernel), gmt tc_4 33 rfl (by decide +kernel), gi_X9, ⟨(by decide +kernel), (by decide +kernel)⟩, (by decide +kernel)⟩
theorem MV_X9_areWays : MV mX9_areWays 1 := ⟨MI_X9_areWays, gmt tc_4 32 rfl (by decide +kernel), gms pc_2 12 rfl, (by decide +kernel)⟩
abbrev mX9_starts : mi := (yX9_starts, cX9_starts, 9, (some .int))
theorem MI_X9_starts : MI mX9_starts := ⟨(by decide +kernel), gmt tc_4 37 rfl (by decide +kernel), gi_X9, ⟨(by decide +kernel), (by decide +kernel)⟩, (by decide +kernel)⟩
theorem MV_X9_starts : MV mX9_starts 2 := ⟨MI_X9_starts, gmt tc_4 36 rfl (by decide +kernel), gms pc_2 13 rfl, (by decide +kernel)⟩
abbrev mX9_leaves : mi := (yX9_leaves, cX9_leaves, 3, (some .int))
theorem MI_X9_leaves : MI mX9_leaves := ⟨(by decide +kernel), gmt tc_4 42 rfl (by decide +kernel), gi_X9, ⟨(by decide +kernel), (by decide +kernel)⟩, (by decide +kernel)⟩
theorem MV_X9_leaves : MV mX9_leaves 2 := ⟨MI_X9_leaves, gmt tc_4 41 rfl (by decide +kernel), gms pc_2 14 rfl, (by decide +kernel)⟩
abbrev mX9_reaches : mi := (yX9_reaches, cX9_reaches, 3, (some .int))
theorem MI_X9_reaches : MI mX9_reaches := ⟨(by decide +kernel), gmt tc_4 46 rfl (by decide +kernel), gi_X9, ⟨(by decide +kernel), (by decide +kernel)⟩, (by decide +kernel)⟩
theorem MV_X9_reaches : MV mX9_reaches 2 := ⟨MI_X9_reaches, gmt tc_4 45 rfl (by decide +kernel), gms pc_2 15 rfl, (by decide +kernel)⟩
abbrev mX10_arc : mi := (yX10_arc, cX10_arc, 4, (some .int))
theorem MI_X10_arc : MI mX10_arc := ⟨(by decide +kernel), gmt tc_4 51 rfl (by decide +kernel), gi_X10, ⟨(by decide +kernel), (by decide +kernel)⟩, (by decide +kernel)⟩
theorem MV_X10_arc : MV mX10_arc 3 := ⟨MI_X10_arc, gmt tc_4 49 rfl (by decide +kernel), gmt tc_4 50 rfl (by decide +kernel), (by decide +kernel)⟩
abbrev mX9_endOf : mi := (yX9_endOf, cX9_endOf, 3, (some .int))
theorem MI_X9_endOf : MI mX9_endOf := ⟨(by decide +kernel), gmt tc_4 55 rfl (by decide +kernel), gi_X9, ⟨(by decide +kernel), (by decide +kernel)⟩, (by decide +kernel)⟩
theorem MV_X9_endOf : MV mX9_endOf 2 := ⟨MI_X9_endOf, gmt tc_4 53 rfl (by decide +kernel), gmt tc_4 54 rfl (by decide +kernel), (by decide +kernel)⟩
abbrev mX10_way : mi := (yX10_way, cX10_way, 4, (some .int))
theorem MI_X10_way : MI mX10_way := ⟨(by decide +kernel), gmt tc_4 59 rfl (by decide +kernel), gi_X10, ⟨(by decide +kernel), (by decide +kernel)⟩, (by decide +kernel)⟩
theorem MV_X10_way : MV mX10_way 3 := ⟨MI_X10_way, gmt tc_4 57 rfl (by decide +kernel), gmt tc_4 58 rfl (by decide +kernel), (by decide +kernel)⟩
abbrev mX9_arcOnWay : mi := (yX9_arcOnWay, cX9_arcOnWay, 6, (some .int))
theorem MI_X9_arcOnWay : MI mX9_arcOnWay := ⟨(by decide +kernel), gmt tc_4 63 rfl (by decide +kernel), gi_X9, ⟨(by decide +kernel), (by decide +kernel)⟩, (by decide +kernel)⟩
theorem MV_X9_arcOnWay : MV mX9_arcOnWay 2 := ⟨MI_X9_arcOnWay, gmt tc_4 61 rfl (by decide +kernel), gmt tc_4 62 rfl (by decide +kernel), (by decide +kernel)⟩
abbrev mX9_arcFrom : mi := (yX9_arcFrom, cX9_arcFrom, 5, (some .int))
theorem MI_X9_arcFrom : MI mX9_arcFrom := ⟨(by decide +kernel), gmt tc_4 67 rfl (by decide +kernel), gi_X9, ⟨(by decide +kernel), (by decide +kernel)⟩, (by decide +kernel)⟩
theorem MV_X9_arcFrom : MV mX9_arcFrom 2 := ⟨MI_X9_arcFrom, gmt tc_4 66 rfl (by decide +kernel), gms pc_3 0 rfl, (by decide +kernel)⟩
abbrev mX10_signed : mi := (yX10_signed, cX10_signed, 3, (some .int))
theorem MI_X10_signed : MI mX10_signed := ⟨(by decide +kernel), gmt tc_4 71 rfl (by decide +kernel), gi_X10, ⟨(by decide +kernel), (by decide +kernel)⟩, (by decide +kernel)⟩
theorem MV_X10_signed : MV mX10_signed 2 := ⟨MI_X10_signed, gmt tc_4 69 rfl (by decide +kernel), gmt tc_4 70 rfl (by decide +kernel), (by decide +kernel)⟩
abbrev mX10_knownSigns : mi := (yX10_knownSigns, cX10_knownSigns, 1, (some (.object "UnimodularTables$Table")))
theorem MI_X10_knownSigns : MI mX10_knownSigns := ⟨(by decide +kernel), gmt tc_4 75 rfl (by decide +kernel), gi_X10, ⟨(by decide +kernel), (by decide +kernel)⟩, (by decide +kernel)⟩
theorem MV_X10_knownSigns : MV mX10_knownSigns 0 := ⟨MI_X10_knownSigns, gmt tc_4 74 rfl (by decide +kernel), gms pc_3 1 rfl, (by decide +kernel)⟩
abbrev mX6_signAll : mi := (yX6_signAll, cX6_signAll, 3, none)
theorem MI_X6_signAll : MI mX6_signAll := ⟨(by decide +kernel), gmt tc_4 79 rfl (by decide +kernel), gi_X6, ⟨(by decide +kernel), (by decide +kernel)⟩, (by decide +kernel)⟩
theorem MV_X6_signAll : MV mX6_signAll 1 := ⟨MI_X6_signAll, gmt tc_4 77 rfl (by decide +kernel), gmt tc_4 78 rfl (by decide +kernel), (by decide +kernel)⟩
abbrev mX6_signForest : mi := (yX6_signForest, cX6_signForest, 4, none)
theorem MI_X6_signForest : MI mX6_signForest := ⟨(by decide +kernel), gmt tc_4 84 rfl (by decide +kernel), gi_X6, ⟨(by decide +kernel), (by decide +kernel)⟩, (by decide +kernel)⟩
theorem MV_X6_signForest : MV mX6_signForest 1 := ⟨MI_X6_signForest, gmt tc_4 83 rfl (by decide +kernel), gms pc_3 2 rfl, (by decide +kernel)⟩
abbrev mX6_unite : mi := (yX6_unite, cX6_unite, 4, none)
theorem MI_X6_unite : MI mX6_unite := ⟨(by decide +kernel), gmt tc_4 90 rfl (by decide +kernel), gi_X6, ⟨(by decide +kernel), (by decide +kernel)⟩, (by decide +kernel)⟩
theorem MV_X6_unite : MV mX6_unite 2 := ⟨MI_X6_unite, gmt tc_4 89 rfl (by decide +kernel), gms pc_3 3 rfl, (by decide +kernel)⟩
abbrev mX6_findNext : mi := (yX6_findNext, cX6_findNext, 6, (some .boolean))
theorem MI_X6_findNext : MI mX6_findNext := ⟨(by decide +kernel), gmt tc_4 94 rfl (by decide +kernel), gi_X6, ⟨(by decide +kernel), (by decide +kernel)⟩, (by decide +kernel)⟩
theorem MV_X6_findNext : MV mX6_findNext 1 := ⟨MI_X6_findNext, gmt tc_4 93 rfl (by decide +kernel), gms pc_3 4 rfl, (by decide +kernel)⟩
abbrev mX6_measureFrom : mi := (yX6_measureFrom, cX6_measureFrom, 3, none)
theorem MI_X6_measureFrom : MI mX6_measureFrom := ⟨(by decide +kernel), gmt tc_4 99 rfl (by decide +kernel), gi_X6, ⟨(by decide +kernel), (by decide +kernel)⟩, (by decide +kernel)⟩
theorem MV_X6_measureFrom : MV mX6_measureFrom 1 := ⟨MI_X6_measureFrom, gmt tc_4 98 rfl (by decide +kernel), gms pc_3 5 rfl, (by decide +kernel)⟩
abbrev mX6_reachRows : mi := (yX6_reachRows, cX6_reachRows, 3, none)
theorem MI_X6_reachRows : MI mX6_reachRows := ⟨(by decide +kernel), gmt tc_4 103 rfl (by decide +kernel), gi_X6, ⟨(by decide +kernel), (by decide +kernel)⟩, (by decide +kernel)⟩
theorem MV_X6_reachRows : MV mX6_reachRows 1 := ⟨MI_X6_reachRows, gmt tc_4 102 rfl (by decide +kernel), gms pc_3 6 rfl, (by decide +kernel)⟩
abbrev mX6_columnToldAt : mi := (yX6_columnToldAt, cX6_columnToldAt, 4, (some .int))
theorem MI_X6_columnToldAt : MI mX6_columnToldAt := ⟨(by decide +kernel), gmt tc_4 107 rfl (by decide +kernel), gi_X6, ⟨(by decide +kernel), (by decide +kernel)⟩, (by decide +kernel)⟩
theorem MV_X6_columnToldAt : MV mX6_columnToldAt 2 := ⟨MI_X6_columnToldAt, gmt tc_4 106 rfl (by decide +kernel), gms pc_3 7 rfl, (by decide +kernel)⟩
abbrev mX6_reachColumns : mi := (yX6_reachColumns, cX6_reachColumns, 3, none)
theorem MI_X6_reachColumns : MI mX6_reachColumns := ⟨(by decide +kernel), gmt tc_4 111 rfl (by decide +kernel), gi_X6, ⟨(by decide +kernel), (by decide +kernel)⟩, (by decide +kernel)⟩
theorem MV_X6_reachColumns : MV mX6_reachColumns 1 := ⟨MI_X6_reachColumns, gmt tc_4 110 rfl (by decide +kernel), gms pc_3 8 rfl, (by decide +kernel)⟩
abbrev mX6_rowToldAt : mi := (yX6_rowToldAt, cX6_rowToldAt, 4, (some .int))
theorem MI_X6_rowToldAt : MI mX6_rowToldAt := ⟨(by decide +kernel), gmt tc_4 115 rfl (by decide +kernel), gi_X6, ⟨(by decide +kernel), (by decide +kernel)⟩, (by decide +kernel)⟩
theorem MV_X6_rowToldAt : MV mX6_rowToldAt 2 := ⟨MI_X6_rowToldAt, gmt tc_4 114 rfl (by decide +kernel), gms pc_3 9 rfl, (by decide +kernel)⟩
abbrev mX6_sumOfWay : mi := (yX6_sumOfWay, cX6_sumOfWay, 6, (some .int))
theorem MI_X6_sumOfWay : MI mX6_sumOfWay := ⟨(by decide +kernel), gmt tc_4 119 rfl (by decide +kernel), gi_X6, ⟨(by decide +kernel), (by decide +kernel)⟩, (by decide +kernel)⟩
theorem MV_X6_sumOfWay : MV mX6_sumOfWay 1 := ⟨MI_X6_sumOfWay, gmt tc_4 118 rfl (by decide +kernel), gms pc_3 10 rfl, (by decide +kernel)⟩
abbrev mX10_regular : mi := (yX10_regular, cX10_regular, 1, (some .int))
theorem MI_X10_regular : MI mX10_regular := ⟨(by decide +kernel), gmt tc_4 123 rfl (by decide +kernel), gi_X10, ⟨(by decide +kernel), (by decide +kernel)⟩, (by decide +kernel)⟩
theorem MV_X10_regular : MV mX10_regular 0 := ⟨MI_X10_regular, gmt tc_4 121 rfl (by decide +kernel), gmt tc_4 122 rfl (by decide +kernel), (by decide +kernel)⟩
abbrev mX10_isTotal : mi := (yX10_isTotal, cX10_isTotal, 2, (some .boolean))
theorem MI_X10_isTotal : MI mX10_isTotal := ⟨(by decide +kernel), gmt tc_4 127 rfl (by decide +kernel), gi_X10, ⟨(by decide +kernel), (by decide +kernel)⟩, (by decide +kernel)⟩
theorem MV_X10_isTotal : MV mX10_isTotal 1 := ⟨MI_X10_isTotal, gmt tc_4 126 rfl (by decide +kernel), gms pc_3 11 rfl, (by decide +kernel)⟩
abbrev mX10_scaled : mi := (yX10_scaled, cX10_scaled, 2, (some .int))
theorem MI_X10_scaled : MI mX10_scaled := ⟨(by decide +kernel), gmt tc_4 131 rfl (by decide +kernel), gi_X10, ⟨(by decide +kernel), (by decide +kernel)⟩, (by decide +kernel)⟩
theorem MV_X10_scaled : MV mX10_scaled 1 := ⟨MI_X10_scaled, gmt tc_4 129 rfl (by decide +kernel), gmt tc_4 130 rfl (by decide +kernel), (by decide +kernel)⟩
abbrev mX7_scalesTo : mi := (yX7_scalesTo, cX7_scalesTo, 4, (some .boolean))
theorem MI_X7_scalesTo : MI mX7_scalesTo := ⟨(by decide +kernel), gmt tc_4 135 rfl (by decide +kernel), gi_X7, ⟨(by decide +kernel), (by decide +kernel)⟩, (by decide +kernel)⟩
theorem MV_X7_scalesTo : MV mX7_scalesTo 1 := ⟨MI_X7_scalesTo, gmt tc_4 133 rfl (by decide +kernel), gmt tc_4 134 rfl (by decide +kernel), (by decide +kernel)⟩
abbrev mX7_columnIs : mi := (yX7_columnIs, cX7_columnIs, 7, (some .boolean))
theorem MI_X7_columnIs : MI mX7_columnIs := ⟨(by decide +kernel), gmt tc_4 140 rfl (by decide +kernel), gi_X7, ⟨(by decide +kernel), (by decide +kernel)⟩, (by decide +kernel)⟩
theorem MV_X7_columnIs : MV mX7_columnIs 4 := ⟨MI_X7_columnIs, gmt tc_4 139 rfl (by decide +kernel), gms pc_3 12 rfl, (by decide +kernel)⟩
abbrev mX10_special : mi := (yX10_special, cX10_special, 1, (some .int))
theorem MI_X10_special : MI mX10_special := ⟨(by decide +kernel), gmt tc_4 144 rfl (by decide +kernel), gi_X10, ⟨(by decide +kernel), (by decide +kernel)⟩, (by decide +kernel)⟩
theorem MV_X10_special : MV mX10_special 0 := ⟨MI_X10_special, gmt tc_4 142 rfl (by decide +kernel), gmt tc_4 143 rfl (by decide +kernel), (by decide +kernel)⟩
abbrev mX3_fits : mi := (yX3_fits, cX3_fits, 4, (some .boolean))
theorem MI_X3_fits : MI mX3_fits := ⟨(by decide +kernel), gmt tc_4 149 rfl (by decide +kernel), gi_X3, ⟨(by decide +kernel), (by decide +kernel)⟩, (by decide +kernel)⟩
theorem MV_X3_fits : MV mX3_fits 2 := ⟨MI_X3_fits, gmt tc_4 147 rfl (by decide +kernel), gmt tc_4 148 rfl (by decide +kernel), (by decide +kernel)⟩
abbrev mX3_write : mi := (yX3_write, cX3_write, 4, none)
theorem MI_X3_write : MI mX3_write := ⟨(by decide +kernel), gmt tc_4 153 rfl (by decide +kernel), gi_X3, ⟨(by decide +kernel), (by decide +kernel)⟩, (by decide +kernel)⟩
theorem MV_X3_write : MV mX3_write 1 := ⟨MI_X3_write, gmt tc_4 152 rfl (by decide +kernel), gms pc_3 13 rfl, (by decide +kernel)⟩
abbrev mJ0_charAt_5068e : mi := (yJ0_charAt_5068e, cJ0_charAt_5068e, 2, (some .char))
theorem MI_J0_charAt_5068e : MI mJ0_charAt_5068e := ⟨(by decide +kernel), gmt tc_4 159 rfl (by decide +kernel), gi_J0, ⟨(by decide +kernel), (by decide +kernel)⟩, (by decide +kernel)⟩
theorem MV_J0_charAt_5068e : MV mJ0_charAt_5068e 1 := ⟨MI_J0_charAt_5068e, gmt tc_4 157 rfl (by decide +kernel), gmt tc_4 158 rfl (by decide +kernel), (by decide +kernel)⟩
abbrev mJ1_charAt_3b067 : mi := (yJ1_charAt_3b067, cJ1_charAt_3b067, 2, (some .char))
theorem MI_J1_charAt_3b067 : MI mJ1_charAt_3b067 := ⟨(by decide +kernel), gmt tc_4 162 rfl (by decide +kernel), gi_J1, ⟨(by decide +kernel), (by decide +kernel)⟩, (by decide +kernel)⟩
theorem MS_J1_charAt_3b067 : MS mJ1_charAt_3b067 2 := ⟨MI_J1_charAt_3b067, gmt tc_4 161 rfl (by decide +kernel), (by decide +kernel)⟩
abbrev mJ0_checkIndex_df160 : mi := (yJ0_checkIndex_df160, cJ0_checkIndex_df160, 2, none)
theorem MI_J0_checkIndex_df160 : MI mJ0_checkIndex_df160 := ⟨(by decide +kernel), gmt tc_4 165 rfl (by decide +kernel), gi_J0, ⟨(by decide +kernel), (by decide +kernel)⟩, (by decide +kernel)⟩
theorem MS_J0_checkIndex_df160 : MS mJ0_checkIndex_df160 2 := ⟨MI_J0_checkIndex_df160, gmt tc_4 164 rfl (by decide +kernel), (by decide +kernel)⟩
abbrev mJ3_checkIndex_8e157 : mi := (yJ3_checkIndex_8e157, cJ3_checkIndex_8e157, 3, (some .int))
theorem MI_J3_checkIndex_8e157 : MI mJ3_checkIndex_8e157 := ⟨(by decide +kernel), gmt tc_4 168 rfl (by decide +kernel), gi_J3, ⟨(by decide +kernel), (by decide +kernel)⟩, (by decide +kernel)⟩
theorem MS_J3_checkIndex_8e157 : MS mJ3_checkIndex_8e157 3 := ⟨MI_J3_checkIndex_8e157, gmt tc_4 167 rfl (by decide +kernel), (by decide +kernel)⟩
abbrev mJ2_charAt_3b067 : mi := (yJ2_charAt_3b067, cJ2_charAt_3b067, 2, (some .char))
theorem MI_J2_charAt_3b067 : MI mJ2_charAt_3b067 := ⟨(by decide +kernel), gmt tc_4 171 rfl (by decide +kernel), gi_J2, ⟨(by decide +kernel), (by decide +kernel)⟩, (by decide +kernel)⟩
theorem MS_J2_charAt_3b067 : MS mJ2_charAt_3b067 2 := ⟨MI_J2_charAt_3b067, gmt tc_4 170 rfl (by decide +kernel), (by decide +kernel)⟩
abbrev mJ2_checkIndex_2214a : mi := (yJ2_checkIndex_2214a, cJ2_checkIndex_2214a, 2, none)
theorem MI_J2_checkIndex_2214a : MI mJ2_checkIndex_2214a := ⟨(by decide +kernel), gmt tc_4 174 rfl (by decide +kernel), gi_J2, ⟨(by decide +kernel), (by decide +kernel)⟩, (by decide +kernel)⟩
theorem MS_J2_checkIndex_2214a : MS mJ2_checkIndex_2214a 2 := ⟨MI_J2_checkIndex_2214a, gmt tc_4 173 rfl (by decide +kernel), (by decide +kernel)⟩
abbrev mX7_notNought : mi := (yX7_notNought, cX7_notNought, 4, (some .int))
theorem MI_X7_notNought : MI mX7_notNought := ⟨(by decide +kernel), gmt tc_4 182 rfl (by decide +kernel), gi_X7, ⟨(by decide +kernel), (by decide +kernel)⟩, (by decide +kernel)⟩
theorem MV_X7_notNought : MV mX7_notNought 0 := ⟨MI_X7_notNought, gmt tc_4 180 rfl (by decide +kernel), gmt tc_4 181 rfl (by decide +kernel), (by decide +kernel)⟩
abbrev mX3_setOrder : mi := (yX3_setOrder, cX3_setOrder, 6, none)
theorem MI_X3_setOrder : MI mX3_setOrder := ⟨(by decide +kernel), gmt tc_4 186 rfl (by decide +kernel), gi_X3, ⟨(by decide +kernel), (by decide +kernel)⟩, (by decide +kernel)⟩
theorem MV_X3_setOrder : MV mX3_setOrder 1 := ⟨MI_X3_setOrder, gmt tc_4 185 rfl (by decide +kernel), gms pc_3 14 rfl, (by decide +kernel)⟩
abbrev mX3_notUsed : mi := (yX3_notUsed, cX3_notUsed, 4, (some .int))
theorem MI_X3_notUsed : MI mX3_notUsed := ⟨(by decide +kernel), gmt tc_4 189 rfl (by decide +kernel), gi_X3, ⟨(by decide +kernel), (by decide +kernel)⟩, (by decide +kernel)⟩
theorem MS_X3_notUsed : MS mX3_notUsed 2 := ⟨MI_X3_notUsed, gmt tc_4 188 rfl (by decide +kernel), (by decide +kernel)⟩
abbrev mX3_moveColumns : mi := (yX3_moveColumns, cX3_moveColumns, 5, (some .boolean))
theorem MI_X3_moveColumns : MI mX3_moveColumns := ⟨(by decide +kernel), gmt tc_4 194 rfl (by decide +kernel), gi_X3, ⟨(by decide +kernel), (by decide +kernel)⟩, (by decide +kernel)⟩
theorem MV_X3_moveColumns : MV mX3_moveColumns 1 := ⟨MI_X3_moveColumns, gmt tc_4 193 rfl (by decide +kernel), gms pc_3 15 rfl, (by decide +kernel)⟩
abbrev mX3_isAlike : mi := (yX3_isAlike, cX3_isAlike, 5, (some .boolean))
theorem MI_X3_isAlike : MI mX3_isAlike := ⟨(by decide +kernel), gmt tc_4 198 rfl (by decide +kernel), gi_X3, ⟨(by decide +kernel), (by decide +kernel)⟩, (by decide +kernel)⟩
theorem MV_X3_isAlike : MV mX3_isAlike 3 := ⟨MI_X3_isAlike, gmt tc_4 197 rfl (by decide +kernel), gms pc_4 0 rfl, (by decide +kernel)⟩
abbrev mX10_block : mi := (yX10_block, cX10_block, 3, (some .int))
theorem MI_X10_block : MI mX10_block := ⟨(by decide +kernel), gmt tc_4 205 rfl (by decide +kernel), gi_X10, ⟨(by decide +kernel), (by decide +kernel)⟩, (by decide +kernel)⟩
theorem MV_X10_block : MV mX10_block 2 := ⟨MI_X10_block, gmt tc_4 203 rfl (by decide +kernel), gmt tc_4 204 rfl (by decide +kernel), (by decide +kernel)⟩
abbrev mX5_takeFrom : mi := (yX5_takeFrom, cX5_takeFrom, 4, none)
theorem MI_X5_takeFrom : MI mX5_takeFrom := ⟨(by decide +kernel), gmt tc_4 209 rfl (by decide +kernel), gi_X5, ⟨(by decide +kernel), (by decide +kernel)⟩, (by decide +kernel)⟩
theorem MV_X5_takeFrom : MV mX5_takeFrom 1 := ⟨MI_X5_takeFrom, gmt tc_4 207 rfl (by decide +kernel), gmt tc_4 208 rfl (by decide +kernel), (by decide +kernel)⟩
abbrev mX5_findParts : mi := (yX5_findParts, cX5_findParts, 4, none)
theorem MI_X5_findParts : MI mX5_findParts := ⟨(by decide +kernel), gmt tc_4 214 rfl (by decide +kernel), gi_X5, ⟨(by decide +kernel), (by decide +kernel)⟩, (by decide +kernel)⟩
theorem MV_X5_findParts : MV mX5_findParts 0 := ⟨MI_X5_findParts, gmt tc_4 212 rfl (by decide +kernel), gmt tc_4 213 rfl (by decide +kernel), (by decide +kernel)⟩
abbrev mX5_allJoinedTo : mi := (yX5_allJoinedTo, cX5_allJoinedTo, 4, (some .int))
theorem MI_X5_allJoinedTo : MI mX5_allJoinedTo := ⟨(by decide +kernel), gmt tc_4 219 rfl (by decide +kernel), gi_X5, ⟨(by decide +kernel), (by decide +kernel)⟩, (by decide +kernel)⟩
theorem MV_X5_allJoinedTo : MV mX5_allJoinedTo 1 := ⟨MI_X5_allJoinedTo, gmt tc_4 218 rfl (by decide +kernel), gms pc_4 1 rfl, (by decide +kernel)⟩
abbrev mX5_columnsMetBy : mi := (yX5_columnsMetBy, cX5_columnsMetBy, 4, (some .int))
theorem MI_X5_columnsMetBy : MI mX5_columnsMetBy := ⟨(by decide +kernel), gmt tc_4 223 rfl (by decide +kernel), gi_X5, ⟨(by decide +kernel), (by decide +kernel)⟩, (by decide +kernel)⟩
theorem MV_X5_columnsMetBy : MV mX5_columnsMetBy 1 := ⟨MI_X5_columnsMetBy, gmt tc_4 222 rfl (by decide +kernel), gms pc_4 2 rfl, (by decide +kernel)⟩
abbrev mX5_rowsMetBy : mi := (yX5_rowsMetBy, cX5_rowsMetBy, 4, (some .int))
theorem MI_X5_rowsMetBy : MI mX5_rowsMetBy := ⟨(by decide +kernel), gmt tc_4 227 rfl (by decide +kernel), gi_X5, ⟨(by decide +kernel), (by decide +kernel)⟩, (by decide +kernel)⟩
theorem MV_X5_rowsMetBy : MV mX5_rowsMetBy 1 := ⟨MI_X5_rowsMetBy, gmt tc_4 226 rfl (by decide +kernel), gms pc_4 3 rfl, (by decide +kernel)⟩
abbrev mX5_addPart : mi := (yX5_addPart, cX5_addPart, 3, none)
theorem MI_X5_addPart : MI mX5_addPart := ⟨(by decide +kernel), gmt tc_4 231 rfl (by decide +kernel), gi_X5, ⟨(by decide +kernel), (by decide +kernel)⟩, (by decide +kernel)⟩
theorem MV_X5_addPart : MV mX5_addPart 2 := ⟨MI_X5_addPart, gmt tc_4 230 rfl (by decide +kernel), gms pc_4 4 rfl, (by decide +kernel)⟩
abbrev mX5_partOf : mi := (yX5_partOf, cX5_partOf, 3, (some .int))
theorem MI_X5_partOf : MI mX5_partOf := ⟨(by decide +kernel), gmt tc_4 235 rfl (by decide +kernel), gi_X5, ⟨(by decide +kernel), (by decide +kernel)⟩, (by decide +kernel)⟩
theorem MV_X5_partOf : MV mX5_partOf 2 := ⟨MI_X5_partOf, gmt tc_4 233 rfl (by decide +kernel), gmt tc_4 234 rfl (by decide +kernel), (by decide +kernel)⟩
abbrev mX10_rank : mi := (yX10_rank, cX10_rank, 2, (some .int))
theorem MI_X10_rank : MI mX10_rank := ⟨(by decide +kernel), gmt tc_4 239 rfl (by decide +kernel), gi_X10, ⟨(by decide +kernel), (by decide +kernel)⟩, (by decide +kernel)⟩
theorem MV_X10_rank : MV mX10_rank 1 := ⟨MI_X10_rank, gmt tc_4 237 rfl (by decide +kernel), gmt tc_4 238 rfl (by decide +kernel), (by decide +kernel)⟩
abbrev mX1_largestNotNought : mi := (yX1_largestNotNought, cX1_largestNotNought, 7, (some .int))
theorem MI_X1_largestNotNought : MI mX1_largestNotNought := ⟨(by decide +kernel), gmt tc_5 3 rfl (by decide +kernel), gi_X1, ⟨(by decide +kernel), (by decide +kernel)⟩, (by decide +kernel)⟩
theorem MV_X1_largestNotNought : MV mX1_largestNotNought 1 := ⟨MI_X1_largestNotNought, gmt tc_5 1 rfl (by decide +kernel), gmt tc_5 2 rfl (by decide +kernel), (by decide +kernel)⟩
abbrev mX10_bases : mi := (yX10_bases, cX10_bases, 1, (some .int))
theorem MI_X10_bases : MI mX10_bases := ⟨(by decide +kernel), gmt tc_5 8 rfl (by decide +kernel), gi_X10, ⟨(by decide +kernel), (by decide +kernel)⟩, (by decide +kernel)⟩
theorem MV_X10_bases : MV mX10_bases 0 := ⟨MI_X10_bases, gmt tc_5 6 rfl (by decide +kernel), gmt tc_5 7 rfl (by decide +kernel), (by decide +kernel)⟩
abbrev mX1_howManyNotNought : mi := (yX1_howManyNotNought, cX1_howManyNotNought, 4, (some .int))
theorem MI_X1_howManyNotNought : MI mX1_howManyNotNought := ⟨(by decide +kernel), gmt tc_5 12 rfl (by decide +kernel), gi_X1, ⟨(by decide +kernel), (by decide +kernel)⟩, (by decide +kernel)⟩
theorem MV_X1_howManyNotNought : MV mX1_howManyNotNought 0 := ⟨MI_X1_howManyNotNought, gmt tc_5 10 rfl (by decide +kernel), gmt tc_5 11 rfl (by decide +kernel), (by decide +kernel)⟩
abbrev mX10_mends : mi := (yX10_mends, cX10_mends, 1, (some .int))
theorem MI_X10_mends : MI mX10_mends := ⟨(by decide +kernel), gmt tc_5 16 rfl (by decide +kernel), gi_X10, ⟨(by decide +kernel), (by decide +kernel)⟩, (by decide +kernel)⟩
theorem MV_X10_mends : MV mX10_mends 0 := ⟨MI_X10_mends, gmt tc_5 14 rfl (by decide +kernel), gmt tc_5 15 rfl (by decide +kernel), (by decide +kernel)⟩
abbrev mX10_firstMend : mi := (yX10_firstMend, cX10_firstMend, 4, (some .int))
theorem MI_X10_firstMend : MI mX10_firstMend := ⟨(by decide +kernel), gmt tc_5 20 rfl (by decide +kernel), gi_X10, ⟨(by decide +kernel), (by decide +kernel)⟩, (by decide +kernel)⟩
theorem MV_X10_firstMend : MV mX10_firstMend 0 := ⟨MI_X10_firstMend, gmt tc_5 19 rfl (by decide +kernel), gms pc_4 5 rfl, (by decide +kernel)⟩
abbrev mX1_allWithinIf : mi := (yX1_allWithinIf, cX1_allWithinIf, 10, (some .boolean))
theorem MI_X1_allWithinIf : MI mX1_allWithinIf := ⟨(by decide +kernel), gmt tc_5 24 rfl (by decide +kernel), gi_X1, ⟨(by decide +kernel), (by decide +kernel)⟩, (by decide +kernel)⟩
theorem MV_X1_allWithinIf : MV mX1_allWithinIf 4 := ⟨MI_X1_allWithinIf, gmt tc_5 22 rfl (by decide +kernel), gmt tc_5 23 rfl (by decide +kernel), (by decide +kernel)⟩
abbrev mX1_cofactor : mi := (yX1_cofactor, cX1_cofactor, 7, (some .int))
theorem MI_X1_cofactor : MI mX1_cofactor := ⟨(by decide +kernel), gmt tc_5 28 rfl (by decide +kernel), gi_X1, ⟨(by decide +kernel), (by decide +kernel)⟩, (by decide +kernel)⟩
theorem MV_X1_cofactor : MV mX1_cofactor 4 := ⟨MI_X1_cofactor, gmt tc_5 27 rfl (by decide +kernel), gms pc_4 6 rfl, (by decide +kernel)⟩
abbrev mX10_fragile : mi := (yX10_fragile, cX10_fragile, 5, (some .int))
theorem MI_X10_fragile : MI mX10_fragile := ⟨(by decide +kernel), gmt tc_5 32 rfl (by decide +kernel), gi_X10, ⟨(by decide +kernel), (by decide +kernel)⟩, (by decide +kernel)⟩
theorem MV_X10_fragile : MV mX10_fragile 0 := ⟨MI_X10_fragile, gmt tc_5 30 rfl (by decide +kernel), gmt tc_5 31 rfl (by decide +kernel), (by decide +kernel)⟩
abbrev mX10_fills : mi := (yX10_fills, cX10_fills, 5, (some .int))
theorem MI_X10_fills : MI mX10_fills := ⟨(by decide +kernel), gmt tc_5 36 rfl (by decide +kernel), gi_X10, ⟨(by decide +kernel), (by decide +kernel)⟩, (by decide +kernel)⟩
theorem MV_X10_fills : MV mX10_fills 2 := ⟨MI_X10_fills, gmt tc_5 34 rfl (by decide +kernel), gmt tc_5 35 rfl (by decide +kernel), (by decide +kernel)⟩
abbrev mX10_pack : mi := (yX10_pack, cX10_pack, 2, (some .int))
theorem MI_X10_pack : MI mX10_pack := ⟨(by decide +kernel), gmt tc_5 40 rfl (by decide +kernel), gi_X10, ⟨(by decide +kernel), (by decide +kernel)⟩, (by decide +kernel)⟩
theorem MV_X10_pack : MV mX10_pack 1 := ⟨MI_X10_pack, gmt tc_5 38 rfl (by decide +kernel), gmt tc_5 39 rfl (by decide +kernel), (by decide +kernel)⟩
abbrev mX5_mostApart : mi := (yX5_mostApart, cX5_mostApart, 3, (some .int))
theorem MI_X5_mostApart : MI mX5_mostApart := ⟨(by decide +kernel), gmt tc_5 44 rfl (by decide +kernel), gi_X5, ⟨(by decide +kernel), (by decide +kernel)⟩, (by decide +kernel)⟩
theorem MV_X5_mostApart : MV mX5_mostApart 0 := ⟨MI_X5_mostApart, gmt tc_5 42 rfl (by decide +kernel), gmt tc_5 43 rfl (by decide +kernel), (by decide +kernel)⟩
abbrev mX5_areApart : mi := (yX5_areApart, cX5_areApart, 3, (some .boolean))
theorem MI_X5_areApart : MI mX5_areApart := ⟨(by decide +kernel), gmt tc_5 49 rfl (by decide +kernel), gi_X5, ⟨(by decide +kernel), (by decide +kernel)⟩, (by decide +kernel)⟩
theorem MV_X5_areApart : MV mX5_areApart 1 := ⟨MI_X5_areApart, gmt tc_5 48 rfl (by decide +kernel), gms pc_4 7 rfl, (by decide +kernel)⟩
abbrev mX5_fewestMeeting : mi := (yX5_fewestMeeting, cX5_fewestMeeting, 4, (some .int))
theorem MI_X5_fewestMeeting : MI mX5_fewestMeeting := ⟨(by decide +kernel), gmt tc_5 53 rfl (by decide +kernel), gi_X5, ⟨(by decide +kernel), (by decide +kernel)⟩, (by decide +kernel)⟩
theorem MV_X5_fewestMeeting : MV mX5_fewestMeeting 0 := ⟨MI_X5_fewestMeeting, gmt tc_5 51 rfl (by decide +kernel), gmt tc_5 52 rfl (by decide +kernel), (by decide +kernel)⟩
abbrev mX10_adjoint : mi := (yX10_adjoint, cX10_adjoint, 5, (some .int))
theorem MI_X10_adjoint : MI mX10_adjoint := ⟨(by decide +kernel), gmt tc_5 57 rfl (by decide +kernel), gi_X10, ⟨(by decide +kernel), (by decide +kernel)⟩, (by decide +kernel)⟩
theorem MV_X10_adjoint : MV mX10_adjoint 2 := ⟨MI_X10_adjoint, gmt tc_5 55 rfl (by decide +kernel), gmt tc_5 56 rfl (by decide +kernel), (by decide +kernel)⟩
abbrev mX10_cycle : mi := (yX10_cycle, cX10_cycle, 1, (some .int))
theorem MI_X10_cycle : MI mX10_cycle := ⟨(by decide +kernel), gmt tc_5 61 rfl (by decide +kernel), gi_X10, ⟨(by decide +kernel), (by decide +kernel)⟩, (by decide +kernel)⟩
theorem MV_X10_cycle : MV mX10_cycle 0 := ⟨MI_X10_cycle, gmt tc_5 59 rfl (by decide +kernel), gmt tc_5 60 rfl (by decide +kernel), (by decide +kernel)⟩
abbrev mX5_shortestRound : mi := (yX5_shortestRound, cX5_shortestRound, 5, (some .int))
theorem MI_X5_shortestRound : MI mX5_shortestRound := ⟨(by decide +kernel), gmt tc_5 65 rfl (by decide +kernel), gi_X5, ⟨(by decide +kernel), (by decide +kernel)⟩, (by decide +kernel)⟩
theorem MV_X5_shortestRound : MV mX5_shortestRound 0 := ⟨MI_X5_shortestRound, gmt tc_5 63 rfl (by decide +kernel), gmt tc_5 64 rfl (by decide +kernel), (by decide +kernel)⟩
abbrev mX5_roundBy : mi := (yX5_roundBy, cX5_roundBy, 6, (some .int))
theorem MI_X5_roundBy : MI mX5_roundBy := ⟨(by decide +kernel), gmt tc_5 69 rfl (by decide +kernel), gi_X5, ⟨(by decide +kernel), (by decide +kernel)⟩, (by decide +kernel)⟩
theorem MV_X5_roundBy : MV mX5_roundBy 2 := ⟨MI_X5_roundBy, gmt tc_5 68 rfl (by decide +kernel), gms pc_4 8 rfl, (by decide +kernel)⟩
abbrev mX10_step : mi := (yX10_step, cX10_step, 4, (some .int))
theorem MI_X10_step : MI mX10_step := ⟨(by decide +kernel), gmt tc_5 73 rfl (by decide +kernel), gi_X10, ⟨(by decide +kernel), (by decide +kernel)⟩, (by decide +kernel)⟩
theorem MV_X10_step : MV mX10_step 3 := ⟨MI_X10_step, gmt tc_5 71 rfl (by decide +kernel), gmt tc_5 72 rfl (by decide +kernel), (by decide +kernel)⟩
abbrev mX10_isScript : mi := (yX10_isScript, cX10_isScript, 2, (some .boolean))
theorem MI_X10_isScript : MI mX10_isScript := ⟨(by decide +kernel), gmt tc_5 77 rfl (by decide +kernel), gi_X10, ⟨(by decide +kernel), (by decide +kernel)⟩, (by decide +kernel)⟩
theorem MV_X10_isScript : MV mX10_isScript 1 := ⟨MI_X10_isScript, gmt tc_5 76 rfl (by decide +kernel), gms pc_4 9 rfl, (by decide +kernel)⟩
abbrev mX4_tell : mi := (yX4_tell, cX4_tell, 3, (some .int))
theorem MI_X4_tell : MI mX4_tell := ⟨(by decide +kernel), gmt tc_5 81 rfl (by decide +kernel), gi_X4, ⟨(by decide +kernel), (by decide +kernel)⟩, (by decide +kernel)⟩
theorem MV_X4_tell : MV mX4_tell 2 := ⟨MI_X4_tell, gmt tc_5 79 rfl (by decide +kernel), gmt tc_5 80 rfl (by decide +kernel), (by decide +kernel)⟩
abbrev mX10_run : mi := (yX10_run, cX10_run, 5, (some .int))
theorem MI_X10_run : MI mX10_run := ⟨(by decide +kernel), gmt tc_5 85 rfl (by decide +kernel), gi_X10, ⟨(by decide +kernel), (by decide +kernel)⟩, (by decide +kernel)⟩
theorem MV_X10_run : MV mX10_run 2 := ⟨MI_X10_run, gmt tc_5 83 rfl (by decide +kernel), gmt tc_5 84 rfl (by decide +kernel), (by decide +kernel)⟩
abbrev mX10_perform : mi := (yX10_perform, cX10_perform, 4, (some .int))
theorem MI_X10_perform : MI mX10_perform := ⟨(by decide +kernel), gmt tc_5 89 rfl (by decide +kernel), gi_X10, ⟨(by decide +kernel), (by decide +kernel)⟩, (by decide +kernel)⟩
theorem MV_X10_perform : MV mX10_perform 1 := ⟨MI_X10_perform, gmt tc_5 87 rfl (by decide +kernel), gmt tc_5 88 rfl (by decide +kernel), (by decide +kernel)⟩
abbrev mX10_draws : mi := (yX10_draws, cX10_draws, 6, (some .int))
theorem MI_X10_draws : MI mX10_draws := ⟨(by decide +kernel), gmt tc_5 93 rfl (by decide +kernel), gi_X10, ⟨(by decide +kernel), (by decide +kernel)⟩, (by decide +kernel)⟩
theorem MV_X10_draws : MV mX10_draws 2 := ⟨MI_X10_draws, gmt tc_5 91 rfl (by decide +kernel), gmt tc_5 92 rfl (by decide +kernel), (by decide +kernel)⟩
abbrev mX10_attemptDraw : mi := (yX10_attemptDraw, cX10_attemptDraw, 3, (some .int))
theorem MI_X10_attemptDraw : MI mX10_attemptDraw := ⟨(by decide +kernel), gmt tc_5 97 rfl (by decide +kernel), gi_X10, ⟨(by decide +kernel), (by decide +kernel)⟩, (by decide +kernel)⟩
theorem MV_X10_attemptDraw : MV mX10_attemptDraw 0 := ⟨MI_X10_attemptDraw, gmt tc_5 96 rfl (by decide +kernel), gms pc_4 10 rfl, (by decide +kernel)⟩
abbrev mX0_draw : mi := (yX0_draw, cX0_draw, 2, (some .int))
theorem MI_X0_draw : MI mX0_draw := ⟨(by decide +kernel), gmt tc_5 101 rfl (by decide +kernel), gi_X0, ⟨(by decide +kernel), (by decide +kernel)⟩, (by decide +kernel)⟩
theorem MV_X0_draw : MV mX0_draw 1 := ⟨MI_X0_draw, gmt tc_5 99 rfl (by decide +kernel), gmt tc_5 100 rfl (by decide +kernel), (by decide +kernel)⟩
abbrev mX10_status : mi := (yX10_status, cX10_status, 2, (some .int))
theorem MI_X10_status : MI mX10_status := ⟨(by decide +kernel), gmt tc_5 107 rfl (by decide +kernel), gi_X10, ⟨(by decide +kernel), (by decide +kernel)⟩, (by decide +kernel)⟩
theorem MV_X10_status : MV mX10_status 1 := ⟨MI_X10_status, gmt tc_5 105 rfl (by decide +kernel), gmt tc_5 106 rfl (by decide +kernel), (by decide +kernel)⟩
abbrev mX10_image : mi := (yX10_image, cX10_image, 1, (some .int))
theorem MI_X10_image : MI mX10_image := ⟨(by decide +kernel), gmt tc_5 111 rfl (by decide +kernel), gi_X10, ⟨(by decide +kernel), (by decide +kernel)⟩, (by decide +kernel)⟩
theorem MV_X10_image : MV mX10_image 0 := ⟨MI_X10_image, gmt tc_5 109 rfl (by decide +kernel), gmt tc_5 110 rfl (by decide +kernel), (by decide +kernel)⟩
abbrev mX10_back : mi := (yX10_back, cX10_back, 1, (some .int))
theorem MI_X10_back : MI mX10_back := ⟨(by decide +kernel), gmt tc_5 115 rfl (by decide +kernel), gi_X10, ⟨(by decide +kernel), (by decide +kernel)⟩, (by decide +kernel)⟩
theorem MV_X10_back : MV mX10_back 0 := ⟨MI_X10_back, gmt tc_5 113 rfl (by decide +kernel), gmt tc_5 114 rfl (by decide +kernel), (by decide +kernel)⟩
abbrev mX10_count : mi := (yX10_count, cX10_count, 2, (some .int))
theorem MI_X10_count : MI mX10_count := ⟨(by decide +kernel), gmt tc_5 119 rfl (by decide +kernel), gi_X10, ⟨(by decide +kernel), (by decide +kernel)⟩, (by decide +kernel)⟩
theorem MV_X10_count : MV mX10_count 1 := ⟨MI_X10_count, gmt tc_5 117 rfl (by decide +kernel), gmt tc_5 118 rfl (by decide +kernel), (by decide +kernel)⟩
abbrev mX10_entry : mi := (yX10_entry, cX10_entry, 3, (some .int))
theorem MI_X10_entry : MI mX10_entry := ⟨(by decide +kernel), gmt tc_5 128 rfl (by decide +kernel), gi_X10, ⟨(by decide +kernel), (by decide +kernel)⟩, (by decide +kernel)⟩
theorem MV_X10_entry : MV mX10_entry 2 := ⟨MI_X10_entry, gmt tc_5 126 rfl (by decide +kernel), gmt tc_5 127 rfl (by decide +kernel), (by decide +kernel)⟩
abbrev mX11_init : mi := (yX11_init, cX11_init, 1, none)
theorem MI_X11_init : MI mX11_init := ⟨(by decide +kernel), gmt tc_5 194 rfl (by decide +kernel), gi_X11, ⟨(by decide +kernel), (by decide +kernel)⟩, (by decide +kernel)⟩
theorem MN_X11_init : MN mX11_init 0 := ⟨MI_X11_init, (by decide +kernel), rfl, gmt tc_5 193 rfl (by decide +kernel), (by decide +kernel)⟩
abbrev mX11_thrown : mi := (yX11_thrown, cX11_thrown, 1, (some .int))
theorem MI_X11_thrown : MI mX11_thrown := ⟨(by decide +kernel), gmt tc_6 65 rfl (by decide +kernel), gi_X11, ⟨(by decide +kernel), (by decide +kernel)⟩, (by decide +kernel)⟩
theorem MV_X11_thrown : MV mX11_thrown 0 := ⟨MI_X11_thrown, gmt tc_6 63 rfl (by decide +kernel), gmt tc_6 64 rfl (by decide +kernel), (by decide +kernel)⟩
abbrev mX11_feed : mi := (yX11_feed, cX11_feed, 6, (some .int))
theorem MI_X11_feed : MI mX11_feed := ⟨(by decide +kernel), gmt tc_6 69 rfl (by decide +kernel), gi_X11, ⟨(by decide +kernel), (by decide +kernel)⟩, (by decide +kernel)⟩
theorem MV_X11_feed : MV mX11_feed 5 := ⟨MI_X11_feed, gmt tc_6 67 rfl (by decide +kernel), gmt tc_6 68 rfl (by decide +kernel), (by decide +kernel)⟩
abbrev mX11_bytesOf : mi := (yX11_bytesOf, cX11_bytesOf, 3, (some .int))
theorem MI_X11_bytesOf : MI mX11_bytesOf := ⟨(by decide +kernel), gmt tc_6 72 rfl (by decide +kernel), gi_X11, ⟨(by decide +kernel), (by decide +kernel)⟩, (by decide +kernel)⟩
theorem MS_X11_bytesOf : MS mX11_bytesOf 1 := ⟨MI_X11_bytesOf, gmt tc_6 71 rfl (by decide +kernel), (by decide +kernel)⟩
abbrev mX11_brings : mi := (yX11_brings, cX11_brings, 4, none)
theorem MI_X11_brings : MI mX11_brings := ⟨(by decide +kernel), gmt tc_6 76 rfl (by decide +kernel), gi_X11, ⟨(by decide +kernel), (by decide +kernel)⟩, (by decide +kernel)⟩
theorem MV_X11_brings : MV mX11_brings 1 := ⟨MI_X11_brings, gmt tc_6 75 rfl (by decide +kernel), gms pc_4 12 rfl, (by decide +kernel)⟩
abbrev mX11_end : mi := (yX11_end, cX11_end, 2, (some .boolean))
theorem MI_X11_end : MI mX11_end := ⟨(by decide +kernel), gmt tc_6 80 rfl (by decide +kernel), gi_X11, ⟨(by decide +kernel), (by decide +kernel)⟩, (by decide +kernel)⟩
theorem MV_X11_end : MV mX11_end 1 := ⟨MI_X11_end, gmt tc_6 78 rfl (by decide +kernel), gmt tc_6 79 rfl (by decide +kernel), (by decide +kernel)⟩
abbrev mX11_fault : mi := (yX11_fault, cX11_fault, 2, (some .int))
theorem MI_X11_fault : MI mX11_fault := ⟨(by decide +kernel), gmt tc_6 84 rfl (by decide +kernel), gi_X11, ⟨(by decide +kernel), (by decide +kernel)⟩, (by decide +kernel)⟩
theorem MV_X11_fault : MV mX11_fault 1 := ⟨MI_X11_fault, gmt tc_6 82 rfl (by decide +kernel), gmt tc_6 83 rfl (by decide +kernel), (by decide +kernel)⟩
abbrev mX11_isIn : mi := (yX11_isIn, cX11_isIn, 6, (some .boolean))
theorem MI_X11_isIn : MI mX11_isIn := ⟨(by decide +kernel), gmt tc_6 87 rfl (by decide +kernel), gi_X11, ⟨(by decide +kernel), (by decide +kernel)⟩, (by decide +kernel)⟩
theorem MS_X11_isIn : MS mX11_isIn 3 := ⟨MI_X11_isIn, gmt tc_6 86 rfl (by decide +kernel), (by decide +kernel)⟩
abbrev mX11_readTable : mi := (yX11_readTable, cX11_readTable, 1, none)
theorem MI_X11_readTable : MI mX11_readTable := ⟨(by decide +kernel), gmt tc_6 91 rfl (by decide +kernel), gi_X11, ⟨(by decide +kernel), (by decide +kernel)⟩, (by decide +kernel)⟩
theorem MV_X11_readTable : MV mX11_readTable 0 := ⟨MI_X11_readTable, gmt tc_6 90 rfl (by decide +kernel), gms pc_4 13 rfl, (by decide +kernel)⟩
abbrev mX11_readRow : mi := (yX11_readRow, cX11_readRow, 4, none)
theorem MI_X11_readRow : MI mX11_readRow := ⟨(by decide +kernel), gmt tc_6 95 rfl (by decide +kernel), gi_X11, ⟨(by decide +kernel), (by decide +kernel)⟩, (by decide +kernel)⟩
theorem MV_X11_readRow : MV mX11_readRow 0 := ⟨MI_X11_readRow, gmt tc_6 94 rfl (by decide +kernel), gms pc_4 14 rfl, (by decide +kernel)⟩
abbrev mX11_look : mi := (yX11_look, cX11_look, 1, (some .int))
theorem MI_X11_look : MI mX11_look := ⟨(by decide +kernel), gmt tc_6 100 rfl (by decide +kernel), gi_X11, ⟨(by decide +kernel), (by decide +kernel)⟩, (by decide +kernel)⟩
theorem MV_X11_look : MV mX11_look 0 := ⟨MI_X11_look, gmt tc_6 99 rfl (by decide +kernel), gms pc_4 15 rfl, (by decide +kernel)⟩
abbrev mX11_here : mi := (yX11_here, cX11_here, 1, (some .int))
theorem MI_X11_here : MI mX11_here := ⟨(by decide +kernel), gmt tc_6 104 rfl (by decide +kernel), gi_X11, ⟨(by decide +kernel), (by decide +kernel)⟩, (by decide +kernel)⟩
theorem MV_X11_here : MV mX11_here 0 := ⟨MI_X11_here, gmt tc_6 103 rfl (by decide +kernel), gms pc_5 0 rfl, (by decide +kernel)⟩
abbrev mX11_spotOf : mi := (yX11_spotOf, cX11_spotOf, 3, (some .int))
theorem MI_X11_spotOf : MI mX11_spotOf := ⟨(by decide +kernel), gmt tc_6 107 rfl (by decide +kernel), gi_X11, ⟨(by decide +kernel), (by decide +kernel)⟩, (by decide +kernel)⟩
theorem MS_X11_spotOf : MS mX11_spotOf 2 := ⟨MI_X11_spotOf, gmt tc_6 106 rfl (by decide +kernel), (by decide +kernel)⟩
abbrev mX11_fails : mi := (yX11_fails, cX11_fails, 1, none)
theorem MI_X11_fails : MI mX11_fails := ⟨(by decide +kernel), gmt tc_6 113 rfl (by decide +kernel), gi_X11, ⟨(by decide +kernel), (by decide +kernel)⟩, (by decide +kernel)⟩
theorem MV_X11_fails : MV mX11_fails 0 := ⟨MI_X11_fails, gmt tc_6 112 rfl (by decide +kernel), gms pc_5 1 rfl, (by decide +kernel)⟩
abbrev mX11_readPlan : mi := (yX11_readPlan, cX11_readPlan, 3, none)
theorem MI_X11_readPlan : MI mX11_readPlan := ⟨(by decide +kernel), gmt tc_6 117 rfl (by decide +kernel), gi_X11, ⟨(by decide +kernel), (by decide +kernel)⟩, (by decide +kernel)⟩
theorem MV_X11_readPlan : MV mX11_readPlan 0 := ⟨MI_X11_readPlan, gmt tc_6 116 rfl (by decide +kernel), gms pc_5 2 rfl, (by decide +kernel)⟩
abbrev mX11_readStep : mi := (yX11_readStep, cX11_readStep, 4, none)
theorem MI_X11_readStep : MI mX11_readStep := ⟨(by decide +kernel), gmt tc_6 121 rfl (by decide +kernel), gi_X11, ⟨(by decide +kernel), (by decide +kernel)⟩, (by decide +kernel)⟩
theorem MV_X11_readStep : MV mX11_readStep 1 := ⟨MI_X11_readStep, gmt tc_6 120 rfl (by decide +kernel), gms pc_5 3 rfl, (by decide +kernel)⟩
abbrev mX11_digit : mi := (yX11_digit, cX11_digit, 2, (some .int))
theorem MI_X11_digit : MI mX11_digit := ⟨(by decide +kernel), gmt tc_6 127 rfl (by decide +kernel), gi_X11, ⟨(by decide +kernel), (by decide +kernel)⟩, (by decide +kernel)⟩
theorem MV_X11_digit : MV mX11_digit 0 := ⟨MI_X11_digit, gmt tc_6 126 rfl (by decide +kernel), gms pc_5 4 rfl, (by decide +kernel)⟩
abbrev mX11_text : mi := (yX11_text, cX11_text, 3, (some .int))
theorem MI_X11_text : MI mX11_text := ⟨(by decide +kernel), gmt tc_6 131 rfl (by decide +kernel), gi_X11, ⟨(by decide +kernel), (by decide +kernel)⟩, (by decide +kernel)⟩
theorem MV_X11_text : MV mX11_text 1 := ⟨MI_X11_text, gmt tc_6 129 rfl (by decide +kernel), gmt tc_6 130 rfl (by decide +kernel), (by decide +kernel)⟩
abbrev mX11_entry : mi := (yX11_entry, cX11_entry, 3, (some .int))
theorem MI_X11_entry : MI mX11_entry := ⟨(by decide +kernel), gmt tc_6 136 rfl (by decide +kernel), gi_X11, ⟨(by decide +kernel), (by decide +kernel)⟩, (by decide +kernel)⟩
theorem MV_X11_entry : MV mX11_entry 2 := ⟨MI_X11_entry, gmt tc_6 134 rfl (by decide +kernel), gmt tc_6 135 rfl (by decide +kernel), (by decide +kernel)⟩
abbrev mX11_isCell : mi := (yX11_isCell, cX11_isCell, 4, (some .boolean))
theorem MI_X11_isCell : MI mX11_isCell := ⟨(by decide +kernel), gmt tc_6 140 rfl (by decide +kernel), gi_X11, ⟨(by decide +kernel), (by decide +kernel)⟩, (by decide +kernel)⟩
theorem MV_X11_isCell : MV mX11_isCell 3 := ⟨MI_X11_isCell, gmt tc_6 139 rfl (by decide +kernel), gms pc_5 5 rfl, (by decide +kernel)⟩
abbrev mX11_change : mi := (yX11_change, cX11_change, 6, (some .int))
theorem MI_X11_change : MI mX11_change := ⟨(by decide +kernel), gmt tc_6 144 rfl (by decide +kernel), gi_X11, ⟨(by decide +kernel), (by decide +kernel)⟩, (by decide +kernel)⟩
theorem MV_X11_change : MV mX11_change 3 := ⟨MI_X11_change, gmt tc_6 142 rfl (by decide +kernel), gmt tc_6 143 rfl (by decide +kernel), (by decide +kernel)⟩
abbrev mX11_refused : mi := (yX11_refused, cX11_refused, 2, (some .int))
theorem MI_X11_refused : MI mX11_refused := ⟨(by decide +kernel), gmt tc_6 149 rfl (by decide +kernel), gi_X11, ⟨(by decide +kernel), (by decide +kernel)⟩, (by decide +kernel)⟩
theorem MV_X11_refused : MV mX11_refused 1 := ⟨MI_X11_refused, gmt tc_6 148 rfl (by decide +kernel), gms pc_5 6 rfl, (by decide +kernel)⟩
abbrev mX11_remember : mi := (yX11_remember, cX11_remember, 2, none)
theorem MI_X11_remember : MI mX11_remember := ⟨(by decide +kernel), gmt tc_6 153 rfl (by decide +kernel), gi_X11, ⟨(by decide +kernel), (by decide +kernel)⟩, (by decide +kernel)⟩
theorem MV_X11_remember : MV mX11_remember 0 := ⟨MI_X11_remember, gmt tc_6 152 rfl (by decide +kernel), gms pc_5 7 rfl, (by decide +kernel)⟩
abbrev mX11_deal : mi := (yX11_deal, cX11_deal, 5, (some .int))
theorem MI_X11_deal : MI mX11_deal := ⟨(by decide +kernel), gmt tc_6 157 rfl (by decide +kernel), gi_X11, ⟨(by decide +kernel), (by decide +kernel)⟩, (by decide +kernel)⟩
theorem MV_X11_deal : MV mX11_deal 3 := ⟨MI_X11_deal, gmt tc_6 155 rfl (by decide +kernel), gmt tc_6 156 rfl (by decide +kernel), (by decide +kernel)⟩
abbrev mX11_stops : mi := (yX11_stops, cX11_stops, 7, (some .int))
theorem MI_X11_stops : MI mX11_stops := ⟨(by decide +kernel), gmt tc_6 161 rfl (by decide +kernel), gi_X11, ⟨(by decide +kernel), (by decide +kernel)⟩, (by decide +kernel)⟩
theorem MV_X11_stops : MV mX11_stops 4 := ⟨MI_X11_stops, gmt tc_6 160 rfl (by decide +kernel), gms pc_5 8 rfl, (by decide +kernel)⟩
abbrev mX11_canTurn : mi := (yX11_canTurn, cX11_canTurn, 8, (some .boolean))
theorem MI_X11_canTurn : MI mX11_canTurn := ⟨(by decide +kernel), gmt tc_6 165 rfl (by decide +kernel), gi_X11, ⟨(by decide +kernel), (by decide +kernel)⟩, (by decide +kernel)⟩
theorem MV_X11_canTurn : MV mX11_canTurn 3 := ⟨MI_X11_canTurn, gmt tc_6 164 rfl (by decide +kernel), gms pc_5 9 rfl, (by decide +kernel)⟩
abbrev mX11_copy : mi := (yX11_copy, cX11_copy, 3, none)
theorem MI_X11_copy : MI mX11_copy := ⟨(by decide +kernel), gmt tc_6 168 rfl (by decide +kernel), gi_X11, ⟨(by decide +kernel), (by decide +kernel)⟩, (by decide +kernel)⟩
theorem MS_X11_copy : MS mX11_copy 2 := ⟨MI_X11_copy, gmt tc_6 167 rfl (by decide +kernel), (by decide +kernel)⟩
abbrev mX11_does : mi := (yX11_does, cX11_does, 7, none)
theorem MI_X11_does : MI mX11_does := ⟨(by decide +kernel), gmt tc_6 172 rfl (by decide +kernel), gi_X11, ⟨(by decide +kernel), (by decide +kernel)⟩, (by decide +kernel)⟩
theorem MV_X11_does : MV mX11_does 4 := ⟨MI_X11_does, gmt tc_6 171 rfl (by decide +kernel), gms pc_5 10 rfl, (by decide +kernel)⟩
abbrev mX11_swaps : mi := (yX11_swaps, cX11_swaps, 4, none)
theorem MI_X11_swaps : MI mX11_swaps := ⟨(by decide +kernel), gmt tc_6 175 rfl (by decide +kernel), gi_X11, ⟨(by decide +kernel), (by decide +kernel)⟩, (by decide +kernel)⟩
theorem MS_X11_swaps : MS mX11_swaps 3 := ⟨MI_X11_swaps, gmt tc_6 174 rfl (by decide +kernel), (by decide +kernel)⟩
abbrev mX11_keep : mi := (yX11_keep, cX11_keep, 2, (some .int))
theorem MI_X11_keep : MI mX11_keep := ⟨(by decide +kernel), gmt tc_6 179 rfl (by decide +kernel), gi_X11, ⟨(by decide +kernel), (by decide +kernel)⟩, (by decide +kernel)⟩
theorem MV_X11_keep : MV mX11_keep 0 := ⟨MI_X11_keep, gmt tc_6 177 rfl (by decide +kernel), gmt tc_6 178 rfl (by decide +kernel), (by decide +kernel)⟩
abbrev mX11_kept : mi := (yX11_kept, cX11_kept, 4, (some .int))
theorem MI_X11_kept : MI mX11_kept := ⟨(by decide +kernel), gmt tc_6 183 rfl (by decide +kernel), gi_X11, ⟨(by decide +kernel), (by decide +kernel)⟩, (by decide +kernel)⟩
theorem MV_X11_kept : MV mX11_kept 3 := ⟨MI_X11_kept, gmt tc_6 181 rfl (by decide +kernel), gmt tc_6 182 rfl (by decide +kernel), (by decide +kernel)⟩
abbrev mX11_isKept : mi := (yX11_isKept, cX11_isKept, 2, (some .boolean))
theorem MI_X11_isKept : MI mX11_isKept := ⟨(by decide +kernel), gmt tc_6 187 rfl (by decide +kernel), gi_X11, ⟨(by decide +kernel), (by decide +kernel)⟩, (by decide +kernel)⟩
theorem MV_X11_isKept : MV mX11_isKept 1 := ⟨MI_X11_isKept, gmt tc_6 186 rfl (by decide +kernel), gms pc_5 11 rfl, (by decide +kernel)⟩
abbrev mX11_keptAt : mi := (yX11_keptAt, cX11_keptAt, 4, (some .int))
theorem MI_X11_keptAt : MI mX11_keptAt := ⟨(by decide +kernel), gmt tc_6 191 rfl (by decide +kernel), gi_X11, ⟨(by decide +kernel), (by decide +kernel)⟩, (by decide +kernel)⟩
theorem MV_X11_keptAt : MV mX11_keptAt 3 := ⟨MI_X11_keptAt, gmt tc_6 190 rfl (by decide +kernel), gms pc_5 12 rfl, (by decide +kernel)⟩
abbrev mX11_join : mi := (yX11_join, cX11_join, 11, (some .int))
theorem MI_X11_join : MI mX11_join := ⟨(by decide +kernel), gmt tc_6 195 rfl (by decide +kernel), gi_X11, ⟨(by decide +kernel), (by decide +kernel)⟩, (by decide +kernel)⟩
theorem MV_X11_join : MV mX11_join 3 := ⟨MI_X11_join, gmt tc_6 193 rfl (by decide +kernel), gmt tc_6 194 rfl (by decide +kernel), (by decide +kernel)⟩
abbrev mX11_undo : mi := (yX11_undo, cX11_undo, 2, (some .int))
theorem MI_X11_undo : MI mX11_undo := ⟨(by decide +kernel), gmt tc_6 199 rfl (by decide +kernel), gi_X11, ⟨(by decide +kernel), (by decide +kernel)⟩, (by decide +kernel)⟩
theorem MV_X11_undo : MV mX11_undo 0 := ⟨MI_X11_undo, gmt tc_6 197 rfl (by decide +kernel), gmt tc_6 198 rfl (by decide +kernel), (by decide +kernel)⟩
abbrev mX11_det : mi := (yX11_det, cX11_det, 3, (some .int))
theorem MI_X11_det : MI mX11_det := ⟨(by decide +kernel), gmt tc_6 203 rfl (by decide +kernel), gi_X11, ⟨(by decide +kernel), (by decide +kernel)⟩, (by decide +kernel)⟩
theorem MV_X11_det : MV mX11_det 2 := ⟨MI_X11_det, gmt tc_6 201 rfl (by decide +kernel), gmt tc_6 202 rfl (by decide +kernel), (by decide +kernel)⟩
abbrev mX11_isSquare : mi := (yX11_isSquare, cX11_isSquare, 4, (some .boolean))
theorem MI_X11_isSquare : MI mX11_isSquare := ⟨(by decide +kernel), gmt tc_6 207 rfl (by decide +kernel), gi_X11, ⟨(by decide +kernel), (by decide +kernel)⟩, (by decide +kernel)⟩
theorem MV_X11_isSquare : MV mX11_isSquare 3 := ⟨MI_X11_isSquare, gmt tc_6 206 rfl (by decide +kernel), gms pc_5 13 rfl, (by decide +kernel)⟩
abbrev mX11_sizeOf : mi := (yX11_sizeOf, cX11_sizeOf, 3, (some .int))
theorem MI_X11_sizeOf : MI mX11_sizeOf := ⟨(by decide +kernel), gmt tc_6 210 rfl (by decide +kernel), gi_X11, ⟨(by decide +kernel), (by decide +kernel)⟩, (by decide +kernel)⟩
theorem MS_X11_sizeOf : MS mX11_sizeOf 1 := ⟨MI_X11_sizeOf, gmt tc_6 209 rfl (by decide +kernel), (by decide +kernel)⟩
abbrev mX11_laysDets : mi := (yX11_laysDets, cX11_laysDets, 10, none)
theorem MI_X11_laysDets : MI mX11_laysDets := ⟨(by decide +kernel), gmt tc_6 214 rfl (by decide +kernel), gi_X11, ⟨(by decide +kernel), (by decide +kernel)⟩, (by decide +kernel)⟩
theorem MV_X11_laysDets : MV mX11_laysDets 1 := ⟨MI_X11_laysDets, gmt tc_6 213 rfl (by decide +kernel), gms pc_5 14 rfl, (by decide +kernel)⟩
abbrev mX11_has : mi := (yX11_has, cX11_has, 2, (some .boolean))
theorem MI_X11_has : MI mX11_has := ⟨(by decide +kernel), gmt tc_6 217 rfl (by decide +kernel), gi_X11, ⟨(by decide +kernel), (by decide +kernel)⟩, (by decide +kernel)⟩
theorem MS_X11_has : MS mX11_has 2 := ⟨MI_X11_has, gmt tc_6 216 rfl (by decide +kernel), (by decide +kernel)⟩
abbrev mX11_squares : mi := (yX11_squares, cX11_squares, 7, (some .int))
theorem MI_X11_squares : MI mX11_squares := ⟨(by decide +kernel), gmt tc_6 221 rfl (by decide +kernel), gi_X11, ⟨(by decide +kernel), (by decide +kernel)⟩, (by decide +kernel)⟩
theorem MV_X11_squares : MV mX11_squares 2 := ⟨MI_X11_squares, gmt tc_6 219 rfl (by decide +kernel), gmt tc_6 220 rfl (by decide +kernel), (by decide +kernel)⟩
abbrev mX11_total : mi := (yX11_total, cX11_total, 1, (some .int))
theorem MI_X11_total : MI mX11_total := ⟨(by decide +kernel), gmt tc_6 231 rfl (by decide +kernel), gi_X11, ⟨(by decide +kernel), (by decide +kernel)⟩, (by decide +kernel)⟩
theorem MV_X11_total : MV mX11_total 0 := ⟨MI_X11_total, gmt tc_6 229 rfl (by decide +kernel), gmt tc_6 230 rfl (by decide +kernel), (by decide +kernel)⟩
abbrev mX11_isTotal : mi := (yX11_isTotal, cX11_isTotal, 4, (some .boolean))
theorem MI_X11_isTotal : MI mX11_isTotal := ⟨(by decide +kernel), gmt tc_6 235 rfl (by decide +kernel), gi_X11, ⟨(by decide +kernel), (by decide +kernel)⟩, (by decide +kernel)⟩
theorem MV_X11_isTotal : MV mX11_isTotal 1 := ⟨MI_X11_isTotal, gmt tc_6 234 rfl (by decide +kernel), gms pc_5 15 rfl, (by decide +kernel)⟩
abbrev mX11_witness : mi := (yX11_witness, cX11_witness, 5, (some .int))
theorem MI_X11_witness : MI mX11_witness := ⟨(by decide +kernel), gmt tc_6 239 rfl (by decide +kernel), gi_X11, ⟨(by decide +kernel), (by decide +kernel)⟩, (by decide +kernel)⟩
theorem MV_X11_witness : MV mX11_witness 1 := ⟨MI_X11_witness, gmt tc_6 237 rfl (by decide +kernel), gmt tc_6 238 rfl (by decide +kernel), (by decide +kernel)⟩
abbrev mX11_halves : mi := (yX11_halves, cX11_halves, 2, (some .int))
theorem MI_X11_halves : MI mX11_halves := ⟨(by decide +kernel), gmt tc_7 4 rfl (by decide +kernel), gi_X11, ⟨(by decide +kernel), (by decide +kernel)⟩, (by decide +kernel)⟩
theorem MV_X11_halves : MV mX11_halves 1 := ⟨MI_X11_halves, gmt tc_7 2 rfl (by decide +kernel), gmt tc_7 3 rfl (by decide +kernel), (by decide +kernel)⟩
abbrev mX11_halfOf : mi := (yX11_halfOf, cX11_halfOf, 3, (some .int))
theorem MI_X11_halfOf : MI mX11_halfOf := ⟨(by decide +kernel), gmt tc_7 8 rfl (by decide +kernel), gi_X11, ⟨(by decide +kernel), (by decide +kernel)⟩, (by decide +kernel)⟩
theorem MV_X11_halfOf : MV mX11_halfOf 1 := ⟨MI_X11_halfOf, gmt tc_7 7 rfl (by decide +kernel), gms pc_6 0 rfl, (by decide +kernel)⟩
abbrev mX11_isHalf : mi := (yX11_isHalf, cX11_isHalf, 6, (some .boolean))
theorem MI_X11_isHalf : MI mX11_isHalf := ⟨(by decide +kernel), gmt tc_7 12 rfl (by decide +kernel), gi_X11, ⟨(by decide +kernel), (by decide +kernel)⟩, (by decide +kernel)⟩
theorem MV_X11_isHalf : MV mX11_isHalf 2 := ⟨MI_X11_isHalf, gmt tc_7 11 rfl (by decide +kernel), gms pc_6 1 rfl, (by decide +kernel)⟩
abbrev mX11_unhalved : mi := (yX11_unhalved, cX11_unhalved, 2, (some .int))
theorem MI_X11_unhalved : MI mX11_unhalved := ⟨(by decide +kernel), gmt tc_7 16 rfl (by decide +kernel), gi_X11, ⟨(by decide +kernel), (by decide +kernel)⟩, (by decide +kernel)⟩
theorem MV_X11_unhalved : MV mX11_unhalved 0 := ⟨MI_X11_unhalved, gmt tc_7 14 rfl (by decide +kernel), gmt tc_7 15 rfl (by decide +kernel), (by decide +kernel)⟩
abbrev mX11_network : mi := (yX11_network, cX11_network, 2, (some .int))
theorem MI_X11_network : MI mX11_network := ⟨(by decide +kernel), gmt tc_7 20 rfl (by decide +kernel), gi_X11, ⟨(by decide +kernel), (by decide +kernel)⟩, (by decide +kernel)⟩
theorem MV_X11_network : MV mX11_network 1 := ⟨MI_X11_network, gmt tc_7 18 rfl (by decide +kernel), gmt tc_7 19 rfl (by decide +kernel), (by decide +kernel)⟩
abbrev mX11_hasTree : mi := (yX11_hasTree, cX11_hasTree, 2, (some .boolean))
theorem MI_X11_hasTree : MI mX11_hasTree := ⟨(by decide +kernel), gmt tc_7 24 rfl (by decide +kernel), gi_X11, ⟨(by decide +kernel), (by decide +kernel)⟩, (by decide +kernel)⟩
theorem MV_X11_hasTree : MV mX11_hasTree 1 := ⟨MI_X11_hasTree, gmt tc_7 23 rfl (by decide +kernel), gms pc_6 2 rfl, (by decide +kernel)⟩
abbrev mX11_laysSide : mi := (yX11_laysSide, cX11_laysSide, 2, none)
theorem MI_X11_laysSide : MI mX11_laysSide := ⟨(by decide +kernel), gmt tc_7 28 rfl (by decide +kernel), gi_X11, ⟨(by decide +kernel), (by decide +kernel)⟩, (by decide +kernel)⟩
theorem MV_X11_laysSide : MV mX11_laysSide 1 := ⟨MI_X11_laysSide, gmt tc_7 27 rfl (by decide +kernel), gms pc_6 3 rfl, (by decide +kernel)⟩
abbrev mX11_grows : mi := (yX11_grows, cX11_grows, 9, (some .boolean))
theorem MI_X11_grows : MI mX11_grows := ⟨(by decide +kernel), gmt tc_7 32 rfl (by decide +kernel), gi_X11, ⟨(by decide +kernel), (by decide +kernel)⟩, (by decide +kernel)⟩
theorem MV_X11_grows : MV mX11_grows 3 := ⟨MI_X11_grows, gmt tc_7 31 rfl (by decide +kernel), gms pc_6 4 rfl, (by decide +kernel)⟩
abbrev mX11_endsAt : mi := (yX11_endsAt, cX11_endsAt, 6, (some .int))
theorem MI_X11_endsAt : MI mX11_endsAt := ⟨(by decide +kernel), gmt tc_7 36 rfl (by decide +kernel), gi_X11, ⟨(by decide +kernel), (by decide +kernel)⟩, (by decide +kernel)⟩
theorem MV_X11_endsAt : MV mX11_endsAt 3 := ⟨MI_X11_endsAt, gmt tc_7 35 rfl (by decide +kernel), gms pc_6 5 rfl, (by decide +kernel)⟩
abbrev mX11_bends : mi := (yX11_bends, cX11_bends, 6, none)
theorem MI_X11_bends : MI mX11_bends := ⟨(by decide +kernel), gmt tc_7 40 rfl (by decide +kernel), gi_X11, ⟨(by decide +kernel), (by decide +kernel)⟩, (by decide +kernel)⟩
theorem MV_X11_bends : MV mX11_bends 4 := ⟨MI_X11_bends, gmt tc_7 39 rfl (by decide +kernel), gms pc_6 6 rfl, (by decide +kernel)⟩
abbrev mX11_areWays : mi := (yX11_areWays, cX11_areWays, 5, (some .boolean))
theorem MI_X11_areWays : MI mX11_areWays := ⟨(by decide +kernel), gmt tc_7 44 rfl (by decide +kernel), gi_X11, ⟨(by decide +kernel), (by decide +kernel)⟩, (by decide +kernel)⟩
theorem MV_X11_areWays : MV mX11_areWays 3 := ⟨MI_X11_areWays, gmt tc_7 43 rfl (by decide +kernel), gms pc_6 7 rfl, (by decide +kernel)⟩
abbrev mX11_isWay : mi := (yX11_isWay, cX11_isWay, 13, (some .boolean))
theorem MI_X11_isWay : MI mX11_isWay := ⟨(by decide +kernel), gmt tc_7 48 rfl (by decide +kernel), gi_X11, ⟨(by decide +kernel), (by decide +kernel)⟩, (by decide +kernel)⟩
theorem MV_X11_isWay : MV mX11_isWay 4 := ⟨MI_X11_isWay, gmt tc_7 47 rfl (by decide +kernel), gms pc_6 8 rfl, (by decide +kernel)⟩
abbrev mX11_headOf : mi := (yX11_headOf, cX11_headOf, 5, (some .int))
theorem MI_X11_headOf : MI mX11_headOf := ⟨(by decide +kernel), gmt tc_7 52 rfl (by decide +kernel), gi_X11, ⟨(by decide +kernel), (by decide +kernel)⟩, (by decide +kernel)⟩
theorem MV_X11_headOf : MV mX11_headOf 4 := ⟨MI_X11_headOf, gmt tc_7 51 rfl (by decide +kernel), gms pc_6 9 rfl, (by decide +kernel)⟩
abbrev mX11_tailOf : mi := (yX11_tailOf, cX11_tailOf, 5, (some .int))
theorem MI_X11_tailOf : MI mX11_tailOf := ⟨(by decide +kernel), gmt tc_7 56 rfl (by decide +kernel), gi_X11, ⟨(by decide +kernel), (by decide +kernel)⟩, (by decide +kernel)⟩
theorem MV_X11_tailOf : MV mX11_tailOf 4 := ⟨MI_X11_tailOf, gmt tc_7 55 rfl (by decide +kernel), gms pc_6 10 rfl, (by decide +kernel)⟩
abbrev mX11_arc : mi := (yX11_arc, cX11_arc, 4, (some .int))
theorem MI_X11_arc : MI mX11_arc := ⟨(by decide +kernel), gmt tc_7 60 rfl (by decide +kernel), gi_X11, ⟨(by decide +kernel), (by decide +kernel)⟩, (by decide +kernel)⟩
theorem MV_X11_arc : MV mX11_arc 3 := ⟨MI_X11_arc, gmt tc_7 58 rfl (by decide +kernel), gmt tc_7 59 rfl (by decide +kernel), (by decide +kernel)⟩
abbrev mX11_way : mi := (yX11_way, cX11_way, 5, (some .int))
theorem MI_X11_way : MI mX11_way := ⟨(by decide +kernel), gmt tc_7 64 rfl (by decide +kernel), gi_X11, ⟨(by decide +kernel), (by decide +kernel)⟩, (by decide +kernel)⟩
theorem MV_X11_way : MV mX11_way 3 := ⟨MI_X11_way, gmt tc_7 62 rfl (by decide +kernel), gmt tc_7 63 rfl (by decide +kernel), (by decide +kernel)⟩
abbrev mX11_signed : mi := (yX11_signed, cX11_signed, 3, (some .int))
theorem MI_X11_signed : MI mX11_signed := ⟨(by decide +kernel), gmt tc_7 68 rfl (by decide +kernel), gi_X11, ⟨(by decide +kernel), (by decide +kernel)⟩, (by decide +kernel)⟩
theorem MV_X11_signed : MV mX11_signed 2 := ⟨MI_X11_signed, gmt tc_7 66 rfl (by decide +kernel), gmt tc_7 67 rfl (by decide +kernel), (by decide +kernel)⟩
abbrev mX11_laysSigns : mi := (yX11_laysSigns, cX11_laysSigns, 8, none)
theorem MI_X11_laysSigns : MI mX11_laysSigns := ⟨(by decide +kernel), gmt tc_7 72 rfl (by decide +kernel), gi_X11, ⟨(by decide +kernel), (by decide +kernel)⟩, (by decide +kernel)⟩
theorem MV_X11_laysSigns : MV mX11_laysSigns 0 := ⟨MI_X11_laysSigns, gmt tc_7 71 rfl (by decide +kernel), gms pc_6 11 rfl, (by decide +kernel)⟩
abbrev mX11_laysSteps : mi := (yX11_laysSteps, cX11_laysSteps, 5, none)
theorem MI_X11_laysSteps : MI mX11_laysSteps := ⟨(by decide +kernel), gmt tc_7 76 rfl (by decide +kernel), gi_X11, ⟨(by decide +kernel), (by decide +kernel)⟩, (by decide +kernel)⟩
theorem MV_X11_laysSteps : MV mX11_laysSteps 1 := ⟨MI_X11_laysSteps, gmt tc_7 75 rfl (by decide +kernel), gms pc_6 12 rfl, (by decide +kernel)⟩
abbrev mX11_areTold : mi := (yX11_areTold, cX11_areTold, 3, (some .boolean))
theorem MI_X11_areTold : MI mX11_areTold := ⟨(by decide +kernel), gmt tc_7 80 rfl (by decide +kernel), gi_X11, ⟨(by decide +kernel), (by decide +kernel)⟩, (by decide +kernel)⟩
theorem MV_X11_areTold : MV mX11_areTold 2 := ⟨MI_X11_areTold, gmt tc_7 79 rfl (by decide +kernel), gms pc_6 13 rfl, (by decide +kernel)⟩
abbrev mX11_isTold : mi := (yX11_isTold, cX11_isTold, 3, (some .boolean))
theorem MI_X11_isTold : MI mX11_isTold := ⟨(by decide +kernel), gmt tc_7 84 rfl (by decide +kernel), gi_X11, ⟨(by decide +kernel), (by decide +kernel)⟩, (by decide +kernel)⟩
theorem MV_X11_isTold : MV mX11_isTold 2 := ⟨MI_X11_isTold, gmt tc_7 83 rfl (by decide +kernel), gms pc_6 14 rfl, (by decide +kernel)⟩
abbrev mX11_signBetween : mi := (yX11_signBetween, cX11_signBetween, 3, (some .int))
theorem MI_X11_signBetween : MI mX11_signBetween := ⟨(by decide +kernel), gmt tc_7 88 rfl (by decide +kernel), gi_X11, ⟨(by decide +kernel), (by decide +kernel)⟩, (by decide +kernel)⟩
theorem MV_X11_signBetween : MV mX11_signBetween 2 := ⟨MI_X11_signBetween, gmt tc_7 87 rfl (by decide +kernel), gms pc_6 15 rfl, (by decide +kernel)⟩
abbrev mX11_regular : mi := (yX11_regular, cX11_regular, 1, (some .int))
theorem MI_X11_regular : MI mX11_regular := ⟨(by decide +kernel), gmt tc_7 92 rfl (by decide +kernel), gi_X11, ⟨(by decide +kernel), (by decide +kernel)⟩, (by decide +kernel)⟩
theorem MV_X11_regular : MV mX11_regular 0 := ⟨MI_X11_regular, gmt tc_7 90 rfl (by decide +kernel), gmt tc_7 91 rfl (by decide +kernel), (by decide +kernel)⟩
abbrev mX11_scaled : mi := (yX11_scaled, cX11_scaled, 3, (some .int))
theorem MI_X11_scaled : MI mX11_scaled := ⟨(by decide +kernel), gmt tc_7 96 rfl (by decide +kernel), gi_X11, ⟨(by decide +kernel), (by decide +kernel)⟩, (by decide +kernel)⟩
theorem MV_X11_scaled : MV mX11_scaled 1 := ⟨MI_X11_scaled, gmt tc_7 94 rfl (by decide +kernel), gmt tc_7 95 rfl (by decide +kernel), (by decide +kernel)⟩
abbrev mX11_isScaled : mi := (yX11_isScaled, cX11_isScaled, 9, (some .boolean))
theorem MI_X11_isScaled : MI mX11_isScaled := ⟨(by decide +kernel), gmt tc_7 100 rfl (by decide +kernel), gi_X11, ⟨(by decide +kernel), (by decide +kernel)⟩, (by decide +kernel)⟩
theorem MV_X11_isScaled : MV mX11_isScaled 2 := ⟨MI_X11_isScaled, gmt tc_7 99 rfl (by decide +kernel), gms pc_7 0 rfl, (by decide +kernel)⟩
abbrev mX11_special : mi := (yX11_special, cX11_special, 3, (some .int))
theorem MI_X11_special : MI mX11_special := ⟨(by decide +kernel), gmt tc_7 104 rfl (by decide +kernel), gi_X11, ⟨(by decide +kernel), (by decide +kernel)⟩, (by decide +kernel)⟩
theorem MV_X11_special : MV mX11_special 0 := ⟨MI_X11_special, gmt tc_7 102 rfl (by decide +kernel), gmt tc_7 103 rfl (by decide +kernel), (by decide +kernel)⟩
abbrev mX11_doRows : mi := (yX11_doRows, cX11_doRows, 7, (some .boolean))
theorem MI_X11_doRows : MI mX11_doRows := ⟨(by decide +kernel), gmt tc_7 110 rfl (by decide +kernel), gi_X11, ⟨(by decide +kernel), (by decide +kernel)⟩, (by decide +kernel)⟩
theorem MV_X11_doRows : MV mX11_doRows 2 := ⟨MI_X11_doRows, gmt tc_7 109 rfl (by decide +kernel), gms pc_7 1 rfl, (by decide +kernel)⟩
abbrev mX11_doColumns : mi := (yX11_doColumns, cX11_doColumns, 6, (some .boolean))
theorem MI_X11_doColumns : MI mX11_doColumns := ⟨(by decide +kernel), gmt tc_7 114 rfl (by decide +kernel), gi_X11, ⟨(by decide +kernel), (by decide +kernel)⟩, (by decide +kernel)⟩
theorem MV_X11_doColumns : MV mX11_doColumns 2 := ⟨MI_X11_doColumns, gmt tc_7 113 rfl (by decide +kernel), gms pc_7 2 rfl, (by decide +kernel)⟩
abbrev mX11_isLaid : mi := (yX11_isLaid, cX11_isLaid, 3, (some .boolean))
theorem MI_X11_isLaid : MI mX11_isLaid := ⟨(by decide +kernel), gmt tc_7 118 rfl (by decide +kernel), gi_X11, ⟨(by decide +kernel), (by decide +kernel)⟩, (by decide +kernel)⟩
theorem MV_X11_isLaid : MV mX11_isLaid 0 := ⟨MI_X11_isLaid, gmt tc_7 117 rfl (by decide +kernel), gms pc_7 3 rfl, (by decide +kernel)⟩
abbrev mX11_block : mi := (yX11_block, cX11_block, 7, (some .int))
theorem MI_X11_block : MI mX11_block := ⟨(by decide +kernel), gmt tc_7 122 rfl (by decide +kernel), gi_X11, ⟨(by decide +kernel), (by decide +kernel)⟩, (by decide +kernel)⟩
theorem MV_X11_block : MV mX11_block 2 := ⟨MI_X11_block, gmt tc_7 120 rfl (by decide +kernel), gmt tc_7 121 rfl (by decide +kernel), (by decide +kernel)⟩
abbrev mX11_laysParts : mi := (yX11_laysParts, cX11_laysParts, 6, none)
theorem MI_X11_laysParts : MI mX11_laysParts := ⟨(by decide +kernel), gmt tc_7 126 rfl (by decide +kernel), gi_X11, ⟨(by decide +kernel), (by decide +kernel)⟩, (by decide +kernel)⟩
theorem MV_X11_laysParts : MV mX11_laysParts 0 := ⟨MI_X11_laysParts, gmt tc_7 125 rfl (by decide +kernel), gms pc_7 4 rfl, (by decide +kernel)⟩
abbrev mX11_isThere : mi := (yX11_isThere, cX11_isThere, 2, (some .boolean))
theorem MI_X11_isThere : MI mX11_isThere := ⟨(by decide +kernel), gmt tc_7 131 rfl (by decide +kernel), gi_X11, ⟨(by decide +kernel), (by decide +kernel)⟩, (by decide +kernel)⟩
theorem MV_X11_isThere : MV mX11_isThere 1 := ⟨MI_X11_isThere, gmt tc_7 130 rfl (by decide +kernel), gms pc_7 5 rfl, (by decide +kernel)⟩
abbrev mX11_rank : mi := (yX11_rank, cX11_rank, 6, (some .int))
theorem MI_X11_rank : MI mX11_rank := ⟨(by decide +kernel), gmt tc_7 135 rfl (by decide +kernel), gi_X11, ⟨(by decide +kernel), (by decide +kernel)⟩, (by decide +kernel)⟩
theorem MV_X11_rank : MV mX11_rank 1 := ⟨MI_X11_rank, gmt tc_7 133 rfl (by decide +kernel), gmt tc_7 134 rfl (by decide +kernel), (by decide +kernel)⟩
abbrev mX11_bases : mi := (yX11_bases, cX11_bases, 4, (some .int))
theorem MI_X11_bases : MI mX11_bases := ⟨(by decide +kernel), gmt tc_7 139 rfl (by decide +kernel), gi_X11, ⟨(by decide +kernel), (by decide +kernel)⟩, (by decide +kernel)⟩
theorem MV_X11_bases : MV mX11_bases 0 := ⟨MI_X11_bases, gmt tc_7 137 rfl (by decide +kernel), gmt tc_7 138 rfl (by decide +kernel), (by decide +kernel)⟩
abbrev mX11_mends : mi := (yX11_mends, cX11_mends, 4, (some .int))
theorem MI_X11_mends : MI mX11_mends := ⟨(by decide +kernel), gmt tc_7 143 rfl (by decide +kernel), gi_X11, ⟨(by decide +kernel), (by decide +kernel)⟩, (by decide +kernel)⟩
theorem MV_X11_mends : MV mX11_mends 0 := ⟨MI_X11_mends, gmt tc_7 141 rfl (by decide +kernel), gmt tc_7 142 rfl (by decide +kernel), (by decide +kernel)⟩
abbrev mX11_isTotalWith : mi := (yX11_isTotalWith, cX11_isTotalWith, 3, (some .boolean))
theorem MI_X11_isTotalWith : MI mX11_isTotalWith := ⟨(by decide +kernel), gmt tc_7 147 rfl (by decide +kernel), gi_X11, ⟨(by decide +kernel), (by decide +kernel)⟩, (by decide +kernel)⟩
theorem MV_X11_isTotalWith : MV mX11_isTotalWith 2 := ⟨MI_X11_isTotalWith, gmt tc_7 146 rfl (by decide +kernel), gms pc_7 6 rfl, (by decide +kernel)⟩
abbrev mX11_fragile : mi := (yX11_fragile, cX11_fragile, 5, (some .int))
theorem MI_X11_fragile : MI mX11_fragile := ⟨(by decide +kernel), gmt tc_7 151 rfl (by decide +kernel), gi_X11, ⟨(by decide +kernel), (by decide +kernel)⟩, (by decide +kernel)⟩
theorem MV_X11_fragile : MV mX11_fragile 0 := ⟨MI_X11_fragile, gmt tc_7 149 rfl (by decide +kernel), gmt tc_7 150 rfl (by decide +kernel), (by decide +kernel)⟩
abbrev mX11_fills : mi := (yX11_fills, cX11_fills, 5, (some .int))
theorem MI_X11_fills : MI mX11_fills := ⟨(by decide +kernel), gmt tc_7 155 rfl (by decide +kernel), gi_X11, ⟨(by decide +kernel), (by decide +kernel)⟩, (by decide +kernel)⟩
theorem MV_X11_fills : MV mX11_fills 2 := ⟨MI_X11_fills, gmt tc_7 153 rfl (by decide +kernel), gmt tc_7 154 rfl (by decide +kernel), (by decide +kernel)⟩
abbrev mX11_pack : mi := (yX11_pack, cX11_pack, 4, (some .int))
theorem MI_X11_pack : MI mX11_pack := ⟨(by decide +kernel), gmt tc_7 159 rfl (by decide +kernel), gi_X11, ⟨(by decide +kernel), (by decide +kernel)⟩, (by decide +kernel)⟩
theorem MV_X11_pack : MV mX11_pack 1 := ⟨MI_X11_pack, gmt tc_7 157 rfl (by decide +kernel), gmt tc_7 158 rfl (by decide +kernel), (by decide +kernel)⟩
abbrev mX11_doPack : mi := (yX11_doPack, cX11_doPack, 4, (some .boolean))
theorem MI_X11_doPack : MI mX11_doPack := ⟨(by decide +kernel), gmt tc_7 163 rfl (by decide +kernel), gi_X11, ⟨(by decide +kernel), (by decide +kernel)⟩, (by decide +kernel)⟩
theorem MV_X11_doPack : MV mX11_doPack 1 := ⟨MI_X11_doPack, gmt tc_7 162 rfl (by decide +kernel), gms pc_7 7 rfl, (by decide +kernel)⟩
abbrev mX11_rowsOf : mi := (yX11_rowsOf, cX11_rowsOf, 4, (some .int))
theorem MI_X11_rowsOf : MI mX11_rowsOf := ⟨(by decide +kernel), gmt tc_7 167 rfl (by decide +kernel), gi_X11, ⟨(by decide +kernel), (by decide +kernel)⟩, (by decide +kernel)⟩
theorem MV_X11_rowsOf : MV mX11_rowsOf 1 := ⟨MI_X11_rowsOf, gmt tc_7 166 rfl (by decide +kernel), gms pc_7 8 rfl, (by decide +kernel)⟩
abbrev mX11_doCover : mi := (yX11_doCover, cX11_doCover, 3, (some .boolean))
theorem MI_X11_doCover : MI mX11_doCover := ⟨(by decide +kernel), gmt tc_7 171 rfl (by decide +kernel), gi_X11, ⟨(by decide +kernel), (by decide +kernel)⟩, (by decide +kernel)⟩
theorem MV_X11_doCover : MV mX11_doCover 1 := ⟨MI_X11_doCover, gmt tc_7 170 rfl (by decide +kernel), gms pc_7 9 rfl, (by decide +kernel)⟩
abbrev mX11_adjoint : mi := (yX11_adjoint, cX11_adjoint, 5, (some .int))
theorem MI_X11_adjoint : MI mX11_adjoint := ⟨(by decide +kernel), gmt tc_7 175 rfl (by decide +kernel), gi_X11, ⟨(by decide +kernel), (by decide +kernel)⟩, (by decide +kernel)⟩
theorem MV_X11_adjoint : MV mX11_adjoint 2 := ⟨MI_X11_adjoint, gmt tc_7 173 rfl (by decide +kernel), gmt tc_7 174 rfl (by decide +kernel), (by decide +kernel)⟩
abbrev mX11_cycle : mi := (yX11_cycle, cX11_cycle, 5, (some .int))
theorem MI_X11_cycle : MI mX11_cycle := ⟨(by decide +kernel), gmt tc_7 179 rfl (by decide +kernel), gi_X11, ⟨(by decide +kernel), (by decide +kernel)⟩, (by decide +kernel)⟩
theorem MV_X11_cycle : MV mX11_cycle 0 := ⟨MI_X11_cycle, gmt tc_7 177 rfl (by decide +kernel), gmt tc_7 178 rfl (by decide +kernel), (by decide +kernel)⟩
abbrev mX11_step : mi := (yX11_step, cX11_step, 4, (some .int))
theorem MI_X11_step : MI mX11_step := ⟨(by decide +kernel), gmt tc_7 183 rfl (by decide +kernel), gi_X11, ⟨(by decide +kernel), (by decide +kernel)⟩, (by decide +kernel)⟩
theorem MV_X11_step : MV mX11_step 3 := ⟨MI_X11_step, gmt tc_7 181 rfl (by decide +kernel), gmt tc_7 182 rfl (by decide +kernel), (by decide +kernel)⟩
abbrev mX11_isPlan : mi := (yX11_isPlan, cX11_isPlan, 2, (some .boolean))
theorem MI_X11_isPlan : MI mX11_isPlan := ⟨(by decide +kernel), gmt tc_7 187 rfl (by decide +kernel), gi_X11, ⟨(by decide +kernel), (by decide +kernel)⟩, (by decide +kernel)⟩
theorem MV_X11_isPlan : MV mX11_isPlan 1 := ⟨MI_X11_isPlan, gmt tc_7 186 rfl (by decide +kernel), gms pc_7 10 rfl, (by decide +kernel)⟩
abbrev mX11_run : mi := (yX11_run, cX11_run, 4, (some .int))
theorem MI_X11_run : MI mX11_run := ⟨(by decide +kernel), gmt tc_7 191 rfl (by decide +kernel), gi_X11, ⟨(by decide +kernel), (by decide +kernel)⟩, (by decide +kernel)⟩
theorem MV_X11_run : MV mX11_run 2 := ⟨MI_X11_run, gmt tc_7 189 rfl (by decide +kernel), gmt tc_7 190 rfl (by decide +kernel), (by decide +kernel)⟩
abbrev mX11_canStep : mi := (yX11_canStep, cX11_canStep, 3, (some .boolean))
theorem MI_X11_canStep : MI mX11_canStep := ⟨(by decide +kernel), gmt tc_7 195 rfl (by decide +kernel), gi_X11, ⟨(by decide +kernel), (by decide +kernel)⟩, (by decide +kernel)⟩
theorem MV_X11_canStep : MV mX11_canStep 2 := ⟨MI_X11_canStep, gmt tc_7 194 rfl (by decide +kernel), gms pc_7 11 rfl, (by decide +kernel)⟩
abbrev mX11_doesStep : mi := (yX11_doesStep, cX11_doesStep, 3, none)
theorem MI_X11_doesStep : MI mX11_doesStep := ⟨(by decide +kernel), gmt tc_7 199 rfl (by decide +kernel), gi_X11, ⟨(by decide +kernel), (by decide +kernel)⟩, (by decide +kernel)⟩
theorem MV_X11_doesStep : MV mX11_doesStep 2 := ⟨MI_X11_doesStep, gmt tc_7 198 rfl (by decide +kernel), gms pc_7 12 rfl, (by decide +kernel)⟩
abbrev mX11_perform : mi := (yX11_perform, cX11_perform, 3, (some .int))
theorem MI_X11_perform : MI mX11_perform := ⟨(by decide +kernel), gmt tc_7 203 rfl (by decide +kernel), gi_X11, ⟨(by decide +kernel), (by decide +kernel)⟩, (by decide +kernel)⟩
theorem MV_X11_perform : MV mX11_perform 1 := ⟨MI_X11_perform, gmt tc_7 201 rfl (by decide +kernel), gmt tc_7 202 rfl (by decide +kernel), (by decide +kernel)⟩
abbrev mX11_draws : mi := (yX11_draws, cX11_draws, 10, (some .int))
theorem MI_X11_draws : MI mX11_draws := ⟨(by decide +kernel), gmt tc_7 207 rfl (by decide +kernel), gi_X11, ⟨(by decide +kernel), (by decide +kernel)⟩, (by decide +kernel)⟩
theorem MV_X11_draws : MV mX11_draws 2 := ⟨MI_X11_draws, gmt tc_7 205 rfl (by decide +kernel), gmt tc_7 206 rfl (by decide +kernel), (by decide +kernel)⟩
abbrev mX11_draw : mi := (yX11_draw, cX11_draw, 2, (some .int))
theorem MI_X11_draw : MI mX11_draw := ⟨(by decide +kernel), gmt tc_7 212 rfl (by decide +kernel), gi_X11, ⟨(by decide +kernel), (by decide +kernel)⟩, (by decide +kernel)⟩
theorem MV_X11_draw : MV mX11_draw 1 := ⟨MI_X11_draw, gmt tc_7 211 rfl (by decide +kernel), gms pc_7 13 rfl, (by decide +kernel)⟩
abbrev mX11_status : mi := (yX11_status, cX11_status, 2, (some .int))
theorem MI_X11_status : MI mX11_status := ⟨(by decide +kernel), gmt tc_7 218 rfl (by decide +kernel), gi_X11, ⟨(by decide +kernel), (by decide +kernel)⟩, (by decide +kernel)⟩
theorem MV_X11_status : MV mX11_status 1 := ⟨MI_X11_status, gmt tc_7 216 rfl (by decide +kernel), gmt tc_7 217 rfl (by decide +kernel), (by decide +kernel)⟩
abbrev mX11_image : mi := (yX11_image, cX11_image, 1, (some .int))
theorem MI_X11_image : MI mX11_image := ⟨(by decide +kernel), gmt tc_7 222 rfl (by decide +kernel), gi_X11, ⟨(by decide +kernel), (by decide +kernel)⟩, (by decide +kernel)⟩
theorem MV_X11_image : MV mX11_image 0 := ⟨MI_X11_image, gmt tc_7 220 rfl (by decide +kernel), gmt tc_7 221 rfl (by decide +kernel), (by decide +kernel)⟩
abbrev mX11_back : mi := (yX11_back, cX11_back, 1, (some .int))
theorem MI_X11_back : MI mX11_back := ⟨(by decide +kernel), gmt tc_7 226 rfl (by decide +kernel), gi_X11, ⟨(by decide +kernel), (by decide +kernel)⟩, (by decide +kernel)⟩
theorem MV_X11_back : MV mX11_back 0 := ⟨MI_X11_back, gmt tc_7 224 rfl (by decide +kernel), gmt tc_7 225 rfl (by decide +kernel), (by decide +kernel)⟩
abbrev mX11_count : mi := (yX11_count, cX11_count, 4, (some .int))
theorem MI_X11_count : MI mX11_count := ⟨(by decide +kernel), gmt tc_7 230 rfl (by decide +kernel), gi_X11, ⟨(by decide +kernel), (by decide +kernel)⟩, (by decide +kernel)⟩
theorem MV_X11_count : MV mX11_count 1 := ⟨MI_X11_count, gmt tc_7 228 rfl (by decide +kernel), gmt tc_7 229 rfl (by decide +kernel), (by decide +kernel)⟩
theorem ml_L_15 : ML RL 15 mX10_init := Or.inl (gmt tc_1 27 rfl (by decide +kernel))
theorem ml_X10_11 : ML RX10 11 mX8_init := Or.inr ⟨"UnimodularTables", nmt tc_1 35 rfl (by decide +kernel)⟩
theorem ml_X10_18 : ML RX10 18 mX7_init := Or.inr ⟨"UnimodularTables", nmt tc_1 52 rfl (by decide +kernel)⟩
theorem ml_X10_31 : ML RX10 31 mX2_init := Or.inl (gmt tc_1 80 rfl (by decide +kernel))
theorem ml_X2_17 : ML RX2 17 mX7_init := Or.inr ⟨"UnimodularTables", nmt tc_1 86 rfl (by decide +kernel)⟩
theorem ml_X10_55 : ML RX10 55 mX1_init := Or.inr ⟨"UnimodularTables", nmt tc_1 102 rfl (by decide +kernel)⟩
theorem ml_X10_62 : ML RX10 62 mX9_init := Or.inr ⟨"UnimodularTables", nmt tc_1 129 rfl (by decide +kernel)⟩
theorem ml_X9_11 : ML RX9 11 mX7_init := Or.inr ⟨"UnimodularTables", nmt tc_1 134 rfl (by decide +kernel)⟩
theorem ml_X10_72 : ML RX10 72 mX6_init := Or.inr ⟨"UnimodularTables", nmt tc_1 154 rfl (by decide +kernel)⟩
theorem ml_X6_11 : ML RX6 11 mX7_init := Or.inr ⟨"UnimodularTables", nmt tc_1 159 rfl (by decide +kernel)⟩
theorem ml_X10_79 : ML RX10 79 mX5_init := Or.inr ⟨"UnimodularTables", nmt tc_1 188 rfl (by decide +kernel)⟩
theorem ml_X10_86 : ML RX10 86 mX3_init := Or.inr ⟨"UnimodularTables", nmt tc_1 217 rfl (by decide +kernel)⟩
theorem ml_X3_11 : ML RX3 11 mX7_init := Or.inr ⟨"UnimodularTables", nmt tc_1 222 rfl (by decide +kernel)⟩
theorem ml_X10_93 : ML RX10 93 mX0_init := Or.inr ⟨"UnimodularTables", nmt tc_1 235 rfl (by decide +kernel)⟩
theorem ml_X10_98 : ML RX10 98 mX4_init := Or.inr ⟨"UnimodularTables", nmt tc_2 5 rfl (by decide +kernel)⟩
theorem ml_L_19 : ML RL 19 mX10_feed := Or.inl (gmt tc_2 88 rfl (by decide +kernel))
theorem ml_X10_99 : ML RX10 99 mX8_bytesIn := Or.inl (gmt tc_2 92 rfl (by decide +kernel))
theorem ml_X10_107 : ML RX10 107 mX8_append := Or.inl (gmt tc_2 95 rfl (by decide +kernel))
theorem ml_L_24 : ML RL 24 mX10_end := Or.inl (gmt tc_2 99 rfl (by decide +kernel))
theorem ml_L_29 : ML RL 29 mX10_fault := Or.inl (gmt tc_2 103 rfl (by decide +kernel))
theorem ml_X10_111 : ML RX10 111 mX7_read := Or.inl (gmt tc_2 107 rfl (by decide +kernel))
theorem ml_X7_32 : ML RX7 32 mX7_clear := Or.inl (gmt tc_2 111 rfl (by decide +kernel))
theorem ml_X7_41 : ML RX7 41 mX8_at := Or.inl (gmt tc_2 115 rfl (by decide +kernel))
theorem ml_X7_44 : ML RX7 44 mX10_valueOfSign := Or.inr ⟨"UnimodularTables", nmt tc_2 119 rfl (by decide +kernel)⟩
theorem ml_X7_48 : ML RX7 48 mX7_put := Or.inl (gmt tc_2 124 rfl (by decide +kernel))
theorem ml_X7_52 : ML RX7 52 mX7_isRowFull := Or.inl (gmt tc_2 128 rfl (by decide +kernel))
theorem ml_X10_118 : ML RX10 118 mX4_read := Or.inl (gmt tc_2 131 rfl (by decide +kernel))
theorem ml_X4_33 : ML RX4 33 mX8_at := Or.inl (gmt tc_2 135 rfl (by decide +kernel))
theorem ml_X4_37 : ML RX4 37 mX4_isWhole := Or.inl (gmt tc_2 136 rfl (by decide +kernel))
theorem ml_X4_41 : ML RX4 41 mX4_begins := Or.inl (gmt tc_2 142 rfl (by decide +kernel))
theorem ml_X4_53 : ML RX4 53 mJ0_indexOf_0f7a4 := Or.inl (gmt tc_2 147 rfl (by decide +kernel))
theorem ml_J0_633 : ML RJ0 633 mJ0_indexOf_7cf53 := Or.inl (gmt tc_2 151 rfl (by decide +kernel))
theorem ml_J0_492 : ML RJ0 492 mJ0_isLatin1_aae02 := Or.inl (gmt tc_2 155 rfl (by decide +kernel))
theorem ml_J0_505 : ML RJ0 505 mJ0_length_8abf5 := Or.inl (gmt tc_2 161 rfl (by decide +kernel))
theorem ml_J0_335 : ML RJ0 335 mJ0_coder_7d493 := Or.inl (gmt tc_2 165 rfl (by decide +kernel))
theorem ml_J0_637 : ML RJ0 637 mJ1_indexOf_4cfef := Or.inl (gmt tc_2 169 rfl (by decide +kernel))
theorem ml_J1_88 : ML RJ1 88 mJ1_canEncode_9a6ad := Or.inl (gmt tc_2 172 rfl (by decide +kernel))
theorem ml_J1_95 : ML RJ1 95 mJ1_indexOfChar_4cfef := Or.inl (gmt tc_2 181 rfl (by decide +kernel))
theorem ml_J0_640 : ML RJ0 640 mJ2_indexOf_4cfef := Or.inl (gmt tc_2 184 rfl (by decide +kernel))
theorem ml_J2_228 : ML RJ2 228 mJ2_indexOfChar_4cfef := Or.inl (gmt tc_2 190 rfl (by decide +kernel))
theorem ml_J2_96 : ML RJ2 96 mJ2_checkBoundsBeginEnd_d044e := Or.inl (gmt tc_2 193 rfl (by decide +kernel))
theorem ml_J2_48 : ML RJ2 48 mJ2_length_9d52b := Or.inl (gmt tc_2 196 rfl (by decide +kernel))
theorem ml_J2_241 : ML RJ2 241 mJ0_checkBoundsBeginEnd_23922 := Or.inl (gmt tc_2 199 rfl (by decide +kernel))
theorem ml_J0_1062 : ML RJ0 1062 mJ3_checkFromToIndex_8c36e := Or.inl (gmt tc_2 204 rfl (by decide +kernel))
theorem ml_J2_244 : ML RJ2 244 mJ2_indexOfCharUnsafe_4cfef := Or.inl (gmt tc_2 207 rfl (by decide +kernel))
theorem ml_J2_71 : ML RJ2 71 mJ2_getChar_3b067 := Or.inl (gmt tc_2 210 rfl (by decide +kernel))
theorem ml_J2_232 : ML RJ2 232 mJ2_indexOfSupplementary_4cfef := Or.inl (gmt tc_2 219 rfl (by decide +kernel))
theorem ml_J2_164 : ML RJ2 164 mJ11_isValidCodePoint_9a6ad := Or.inl (gmt tc_2 222 rfl (by decide +kernel))
theorem ml_J2_157 : ML RJ2 157 mJ11_highSurrogate_5068e := Or.inl (gmt tc_2 225 rfl (by decide +kernel))
theorem ml_J2_161 : ML RJ2 161 mJ11_lowSurrogate_5068e := Or.inl (gmt tc_2 229 rfl (by decide +kernel))
theorem ml_X4_44 : ML RX4 44 mX4_goesOn := Or.inl (gmt tc_2 234 rfl (by decide +kernel))
theorem ml_X4_59 : ML RX4 59 mX10_valueOfSign := Or.inr ⟨"UnimodularTables", nmt tc_2 238 rfl (by decide +kernel)⟩
theorem ml_L_34 : ML RL 34 mX10_text := Or.inl (gmt tc_3 0 rfl (by decide +kernel))
theorem ml_X10_119 : ML RX10 119 mX10_tableFromTape := Or.inl (gmt tc_3 4 rfl (by decide +kernel))
theorem ml_X10_159 : ML RX10 159 mX7_copyFrom := Or.inl (gmt tc_3 8 rfl (by decide +kernel))
theorem ml_X10_317 : ML RX10 317 mX2_clear := Or.inl (gmt tc_3 15 rfl (by decide +kernel))
theorem ml_X10_176 : ML RX10 176 mX10_forget := Or.inl (gmt tc_3 19 rfl (by decide +kernel))
theorem ml_X10_123 : ML RX10 123 mX10_scriptFromTape := Or.inl (gmt tc_3 23 rfl (by decide +kernel))
theorem ml_L_48 : ML RL 48 mX10_change := Or.inl (gmt tc_3 27 rfl (by decide +kernel))
theorem ml_X10_133 : ML RX10 133 mX7_at := Or.inl (gmt tc_3 31 rfl (by decide +kernel))
theorem ml_X10_137 : ML RX10 137 mX10_attempt := Or.inl (gmt tc_3 35 rfl (by decide +kernel))
theorem ml_X10_152 : ML RX10 152 mX7_isNone := Or.inl (gmt tc_3 39 rfl (by decide +kernel))
theorem ml_X10_304 : ML RX10 304 mX7_act := Or.inl (gmt tc_3 43 rfl (by decide +kernel))
theorem ml_X7_56 : ML RX7 56 mX7_negateRow := Or.inl (gmt tc_3 47 rfl (by decide +kernel))
theorem ml_X7_79 : ML RX7 79 mX7_has := Or.inl (gmt tc_3 51 rfl (by decide +kernel))
theorem ml_X7_28 : ML RX7 28 mX7_at := Or.inl (gmt tc_3 55 rfl (by decide +kernel))
theorem ml_X7_59 : ML RX7 59 mX7_onColumns := Or.inl (gmt tc_3 56 rfl (by decide +kernel))
theorem ml_X7_69 : ML RX7 69 mX7_transpose := Or.inl (gmt tc_3 60 rfl (by decide +kernel))
theorem ml_X7_63 : ML RX7 63 mX7_changeRows := Or.inl (gmt tc_3 64 rfl (by decide +kernel))
theorem ml_X7_76 : ML RX7 76 mX7_dropRow := Or.inl (gmt tc_3 68 rfl (by decide +kernel))
theorem ml_X7_66 : ML RX7 66 mX7_turn := Or.inl (gmt tc_3 72 rfl (by decide +kernel))
theorem ml_X7_83 : ML RX7 83 mX7_canTurn := Or.inl (gmt tc_3 76 rfl (by decide +kernel))
theorem ml_X7_86 : ML RX7 86 mX10_isBeyond := Or.inr ⟨"UnimodularTables", nmt tc_3 80 rfl (by decide +kernel)⟩
theorem ml_X7_73 : ML RX7 73 mX7_set := Or.inl (gmt tc_3 83 rfl (by decide +kernel))
theorem ml_X10_323 : ML RX10 323 mX10_settle := Or.inl (gmt tc_3 87 rfl (by decide +kernel))
theorem ml_X10_336 : ML RX10 336 mX2_add := Or.inl (gmt tc_3 91 rfl (by decide +kernel))
theorem ml_X2_25 : ML RX2 25 mX7_copyFrom := Or.inl (gmt tc_3 95 rfl (by decide +kernel))
theorem ml_X10_141 : ML RX10 141 mX10_refused := Or.inl (gmt tc_3 96 rfl (by decide +kernel))
theorem ml_L_53 : ML RL 53 mX10_deal := Or.inl (gmt tc_3 100 rfl (by decide +kernel))
theorem ml_X10_146 : ML RX10 146 mX10_actOfDeal := Or.inl (gmt tc_3 104 rfl (by decide +kernel))
theorem ml_L_57 : ML RL 57 mX10_keep := Or.inl (gmt tc_3 107 rfl (by decide +kernel))
theorem ml_L_61 : ML RL 61 mX10_kept := Or.inl (gmt tc_3 111 rfl (by decide +kernel))
theorem ml_X10_163 : ML RX10 163 mX10_isKept := Or.inl (gmt tc_3 115 rfl (by decide +kernel))
theorem ml_X10_126 : ML RX10 126 mX7_has := Or.inl (gmt tc_3 119 rfl (by decide +kernel))
theorem ml_L_65 : ML RL 65 mX10_join := Or.inl (gmt tc_3 120 rfl (by decide +kernel))
theorem ml_X10_166 : ML RX10 166 mX10_attemptSum := Or.inl (gmt tc_3 124 rfl (by decide +kernel))
theorem ml_X10_326 : ML RX10 326 mX7_becomeJoined := Or.inl (gmt tc_3 128 rfl (by decide +kernel))
theorem ml_X10_330 : ML RX10 330 mX7_becomeLinked := Or.inl (gmt tc_3 132 rfl (by decide +kernel))
theorem ml_X7_90 : ML RX7 90 mX7_linked := Or.inl (gmt tc_3 136 rfl (by decide +kernel))
theorem ml_L_69 : ML RL 69 mX10_undo := Or.inl (gmt tc_3 139 rfl (by decide +kernel))
theorem ml_X10_173 : ML RX10 173 mX2_takeBack := Or.inl (gmt tc_3 143 rfl (by decide +kernel))
theorem ml_L_73 : ML RL 73 mX10_det := Or.inl (gmt tc_3 147 rfl (by decide +kernel))
theorem ml_X10_179 : ML RX10 179 mX7_hasRowSet := Or.inl (gmt tc_3 151 rfl (by decide +kernel))
theorem ml_X10_182 : ML RX10 182 mX7_hasColumnSet := Or.inl (gmt tc_3 155 rfl (by decide +kernel))
theorem ml_X10_185 : ML RX10 185 mJ6_bitCount_0f7a4 := Or.inl (gmt tc_3 159 rfl (by decide +kernel))
theorem ml_X10_190 : ML RX10 190 mX10_knownMinors := Or.inl (gmt tc_3 165 rfl (by decide +kernel))
theorem ml_X10_344 : ML RX10 344 mX1_reckon := Or.inl (gmt tc_3 169 rfl (by decide +kernel))
theorem ml_X1_36 : ML RX1 36 mJ6_bitCount_0f7a4 := Or.inl (gmt tc_3 173 rfl (by decide +kernel))
theorem ml_X1_42 : ML RX1 42 mX1_expanded := Or.inl (gmt tc_3 174 rfl (by decide +kernel))
theorem ml_X1_54 : ML RX1 54 mX10_isIn := Or.inr ⟨"UnimodularTables", nmt tc_3 178 rfl (by decide +kernel)⟩
theorem ml_X1_58 : ML RX1 58 mX7_at := Or.inl (gmt tc_3 181 rfl (by decide +kernel))
theorem ml_X1_62 : ML RX1 62 mX1_of := Or.inl (gmt tc_3 182 rfl (by decide +kernel))
theorem ml_X1_46 : ML RX1 46 mX10_isBeyond := Or.inr ⟨"UnimodularTables", nmt tc_3 186 rfl (by decide +kernel)⟩
theorem ml_X1_50 : ML RX1 50 mX1_noteBeyond := Or.inl (gmt tc_3 187 rfl (by decide +kernel))
theorem ml_X10_194 : ML RX10 194 mX1_of := Or.inl (gmt tc_3 191 rfl (by decide +kernel))
theorem ml_L_77 : ML RL 77 mX10_squares := Or.inl (gmt tc_3 192 rfl (by decide +kernel))
theorem ml_X10_197 : ML RX10 197 mX1_howMany := Or.inl (gmt tc_3 196 rfl (by decide +kernel))
theorem ml_X1_69 : ML RX1 69 mX1_sortOf := Or.inl (gmt tc_3 200 rfl (by decide +kernel))
theorem ml_L_81 : ML RL 81 mX10_total := Or.inl (gmt tc_3 203 rfl (by decide +kernel))
theorem ml_X10_200 : ML RX10 200 mX1_allWithin := Or.inl (gmt tc_3 207 rfl (by decide +kernel))
theorem ml_L_85 : ML RL 85 mX10_witness := Or.inl (gmt tc_3 211 rfl (by decide +kernel))
theorem ml_L_89 : ML RL 89 mX10_halves := Or.inl (gmt tc_3 215 rfl (by decide +kernel))
theorem ml_X10_209 : ML RX10 209 mX7_halved := Or.inl (gmt tc_3 219 rfl (by decide +kernel))
theorem ml_X7_94 : ML RX7 94 mX7_halvesAll := Or.inl (gmt tc_3 223 rfl (by decide +kernel))
theorem ml_X7_97 : ML RX7 97 mX10_isIn := Or.inr ⟨"UnimodularTables", nmt tc_3 227 rfl (by decide +kernel)⟩
theorem ml_L_93 : ML RL 93 mX10_unhalved := Or.inl (gmt tc_3 228 rfl (by decide +kernel))
theorem ml_L_97 : ML RL 97 mX10_network := Or.inl (gmt tc_3 232 rfl (by decide +kernel))
theorem ml_X10_212 : ML RX10 212 mX10_hasSide := Or.inl (gmt tc_3 236 rfl (by decide +kernel))
theorem ml_X10_215 : ML RX10 215 mX10_knownTree := Or.inl (gmt tc_4 0 rfl (by decide +kernel))
theorem ml_X10_347 : ML RX10 347 mX9_seek := Or.inl (gmt tc_4 4 rfl (by decide +kernel))
theorem ml_X9_25 : ML RX9 25 mX7_copyFrom := Or.inl (gmt tc_4 8 rfl (by decide +kernel))
theorem ml_X9_29 : ML RX9 29 mX7_transpose := Or.inl (gmt tc_4 9 rfl (by decide +kernel))
theorem ml_X9_33 : ML RX9 33 mX9_grow := Or.inl (gmt tc_4 10 rfl (by decide +kernel))
theorem ml_X9_45 : ML RX9 45 mX9_arcsAt := Or.inl (gmt tc_4 14 rfl (by decide +kernel))
theorem ml_X9_49 : ML RX9 49 mX9_isNew := Or.inl (gmt tc_4 18 rfl (by decide +kernel))
theorem ml_X9_53 : ML RX9 53 mX9_growBy := Or.inl (gmt tc_4 21 rfl (by decide +kernel))
theorem ml_X9_57 : ML RX9 57 mX9_moveEnds := Or.inl (gmt tc_4 25 rfl (by decide +kernel))
theorem ml_X9_64 : ML RX9 64 mX10_isIn := Or.inr ⟨"UnimodularTables", nmt tc_4 29 rfl (by decide +kernel)⟩
theorem ml_X9_61 : ML RX9 61 mX9_areWays := Or.inl (gmt tc_4 30 rfl (by decide +kernel))
theorem ml_X9_70 : ML RX9 70 mX9_starts := Or.inl (gmt tc_4 34 rfl (by decide +kernel))
theorem ml_X9_79 : ML RX9 79 mX7_at := Or.inl (gmt tc_4 38 rfl (by decide +kernel))
theorem ml_X9_82 : ML RX9 82 mX9_leaves := Or.inl (gmt tc_4 39 rfl (by decide +kernel))
theorem ml_X9_85 : ML RX9 85 mX9_reaches := Or.inl (gmt tc_4 43 rfl (by decide +kernel))
theorem ml_X9_73 : ML RX9 73 mJ6_bitCount_0f7a4 := Or.inl (gmt tc_4 47 rfl (by decide +kernel))
theorem ml_L_101 : ML RL 101 mX10_arc := Or.inl (gmt tc_4 48 rfl (by decide +kernel))
theorem ml_X10_223 : ML RX10 223 mX9_endOf := Or.inl (gmt tc_4 52 rfl (by decide +kernel))
theorem ml_L_105 : ML RL 105 mX10_way := Or.inl (gmt tc_4 56 rfl (by decide +kernel))
theorem ml_X10_226 : ML RX10 226 mX9_arcOnWay := Or.inl (gmt tc_4 60 rfl (by decide +kernel))
theorem ml_X9_88 : ML RX9 88 mX9_arcFrom := Or.inl (gmt tc_4 64 rfl (by decide +kernel))
theorem ml_L_109 : ML RL 109 mX10_signed := Or.inl (gmt tc_4 68 rfl (by decide +kernel))
theorem ml_X10_229 : ML RX10 229 mX10_knownSigns := Or.inl (gmt tc_4 72 rfl (by decide +kernel))
theorem ml_X10_351 : ML RX10 351 mX6_signAll := Or.inl (gmt tc_4 76 rfl (by decide +kernel))
theorem ml_X6_38 : ML RX6 38 mX7_clear := Or.inl (gmt tc_4 80 rfl (by decide +kernel))
theorem ml_X6_42 : ML RX6 42 mX6_signForest := Or.inl (gmt tc_4 81 rfl (by decide +kernel))
theorem ml_X6_68 : ML RX6 68 mX7_at := Or.inl (gmt tc_4 85 rfl (by decide +kernel))
theorem ml_X6_64 : ML RX6 64 mX7_put := Or.inl (gmt tc_4 86 rfl (by decide +kernel))
theorem ml_X6_72 : ML RX6 72 mX6_unite := Or.inl (gmt tc_4 87 rfl (by decide +kernel))
theorem ml_X6_46 : ML RX6 46 mX6_findNext := Or.inl (gmt tc_4 91 rfl (by decide +kernel))
theorem ml_X6_53 : ML RX6 53 mX6_measureFrom := Or.inl (gmt tc_4 96 rfl (by decide +kernel))
theorem ml_X6_76 : ML RX6 76 mX6_reachRows := Or.inl (gmt tc_4 100 rfl (by decide +kernel))
theorem ml_X6_82 : ML RX6 82 mX6_columnToldAt := Or.inl (gmt tc_4 104 rfl (by decide +kernel))
theorem ml_X6_79 : ML RX6 79 mX6_reachColumns := Or.inl (gmt tc_4 108 rfl (by decide +kernel))
theorem ml_X6_85 : ML RX6 85 mX6_rowToldAt := Or.inl (gmt tc_4 112 rfl (by decide +kernel))
theorem ml_X6_60 : ML RX6 60 mX6_sumOfWay := Or.inl (gmt tc_4 116 rfl (by decide +kernel))
theorem ml_L_113 : ML RL 113 mX10_regular := Or.inl (gmt tc_4 120 rfl (by decide +kernel))
theorem ml_X10_233 : ML RX10 233 mX10_isTotal := Or.inl (gmt tc_4 124 rfl (by decide +kernel))
theorem ml_L_117 : ML RL 117 mX10_scaled := Or.inl (gmt tc_4 128 rfl (by decide +kernel))
theorem ml_X10_237 : ML RX10 237 mX7_scalesTo := Or.inl (gmt tc_4 132 rfl (by decide +kernel))
theorem ml_X7_100 : ML RX7 100 mX7_hasRowSet := Or.inl (gmt tc_4 136 rfl (by decide +kernel))
theorem ml_X7_103 : ML RX7 103 mX7_columnIs := Or.inl (gmt tc_4 137 rfl (by decide +kernel))
theorem ml_L_121 : ML RL 121 mX10_special := Or.inl (gmt tc_4 141 rfl (by decide +kernel))
theorem ml_X10_242 : ML RX10 242 mX3_fits := Or.inl (gmt tc_4 146 rfl (by decide +kernel))
theorem ml_X3_32 : ML RX3 32 mX3_write := Or.inl (gmt tc_4 150 rfl (by decide +kernel))
theorem ml_X3_51 : ML RX3 51 mX7_clear := Or.inl (gmt tc_4 154 rfl (by decide +kernel))
theorem ml_X3_55 : ML RX3 55 mJ0_length_8abf5 := Or.inl (gmt tc_4 155 rfl (by decide +kernel))
theorem ml_X3_60 : ML RX3 60 mJ0_charAt_5068e := Or.inl (gmt tc_4 156 rfl (by decide +kernel))
theorem ml_J0_495 : ML RJ0 495 mJ1_charAt_3b067 := Or.inl (gmt tc_4 160 rfl (by decide +kernel))
theorem ml_J1_9 : ML RJ1 9 mJ0_checkIndex_df160 := Or.inl (gmt tc_4 163 rfl (by decide +kernel))
theorem ml_J0_1059 : ML RJ0 1059 mJ3_checkIndex_8e157 := Or.inl (gmt tc_4 166 rfl (by decide +kernel))
theorem ml_J0_498 : ML RJ0 498 mJ2_charAt_3b067 := Or.inl (gmt tc_4 169 rfl (by decide +kernel))
theorem ml_J2_67 : ML RJ2 67 mJ2_checkIndex_2214a := Or.inl (gmt tc_4 172 rfl (by decide +kernel))
theorem ml_J2_414 : ML RJ2 414 mJ0_checkIndex_df160 := Or.inl (gmt tc_4 175 rfl (by decide +kernel))
theorem ml_X3_64 : ML RX3 64 mX10_valueOfSign := Or.inr ⟨"UnimodularTables", nmt tc_4 176 rfl (by decide +kernel)⟩
theorem ml_X3_69 : ML RX3 69 mX7_put := Or.inl (gmt tc_4 178 rfl (by decide +kernel))
theorem ml_X3_36 : ML RX3 36 mX7_notNought := Or.inl (gmt tc_4 179 rfl (by decide +kernel))
theorem ml_X3_40 : ML RX3 40 mX3_setOrder := Or.inl (gmt tc_4 183 rfl (by decide +kernel))
theorem ml_X3_73 : ML RX3 73 mX3_notUsed := Or.inl (gmt tc_4 187 rfl (by decide +kernel))
theorem ml_X3_77 : ML RX3 77 mX10_isIn := Or.inr ⟨"UnimodularTables", nmt tc_4 190 rfl (by decide +kernel)⟩
theorem ml_X3_44 : ML RX3 44 mX3_moveColumns := Or.inl (gmt tc_4 191 rfl (by decide +kernel))
theorem ml_X3_81 : ML RX3 81 mX3_isAlike := Or.inl (gmt tc_4 195 rfl (by decide +kernel))
theorem ml_X3_85 : ML RX3 85 mX7_at := Or.inl (gmt tc_4 199 rfl (by decide +kernel))
theorem ml_X3_48 : ML RX3 48 mX7_scalesTo := Or.inl (gmt tc_4 200 rfl (by decide +kernel))
theorem ml_L_125 : ML RL 125 mX10_block := Or.inl (gmt tc_4 202 rfl (by decide +kernel))
theorem ml_X10_248 : ML RX10 248 mX5_takeFrom := Or.inl (gmt tc_4 206 rfl (by decide +kernel))
theorem ml_X5_35 : ML RX5 35 mX7_at := Or.inl (gmt tc_4 210 rfl (by decide +kernel))
theorem ml_X10_251 : ML RX10 251 mX5_findParts := Or.inl (gmt tc_4 211 rfl (by decide +kernel))
theorem ml_X5_39 : ML RX5 39 mX10_isIn := Or.inr ⟨"UnimodularTables", nmt tc_4 215 rfl (by decide +kernel)⟩
theorem ml_X5_46 : ML RX5 46 mX5_allJoinedTo := Or.inl (gmt tc_4 216 rfl (by decide +kernel))
theorem ml_X5_50 : ML RX5 50 mX5_columnsMetBy := Or.inl (gmt tc_4 220 rfl (by decide +kernel))
theorem ml_X5_57 : ML RX5 57 mX5_rowsMetBy := Or.inl (gmt tc_4 224 rfl (by decide +kernel))
theorem ml_X5_53 : ML RX5 53 mX5_addPart := Or.inl (gmt tc_4 228 rfl (by decide +kernel))
theorem ml_X10_257 : ML RX10 257 mX5_partOf := Or.inl (gmt tc_4 232 rfl (by decide +kernel))
theorem ml_L_129 : ML RL 129 mX10_rank := Or.inl (gmt tc_4 236 rfl (by decide +kernel))
theorem ml_X10_260 : ML RX10 260 mX1_largestNotNought := Or.inl (gmt tc_5 0 rfl (by decide +kernel))
theorem ml_L_133 : ML RL 133 mX10_bases := Or.inl (gmt tc_5 5 rfl (by decide +kernel))
theorem ml_X10_263 : ML RX10 263 mX1_howManyNotNought := Or.inl (gmt tc_5 9 rfl (by decide +kernel))
theorem ml_L_137 : ML RL 137 mX10_mends := Or.inl (gmt tc_5 13 rfl (by decide +kernel))
theorem ml_X10_266 : ML RX10 266 mX10_firstMend := Or.inl (gmt tc_5 17 rfl (by decide +kernel))
theorem ml_X10_272 : ML RX10 272 mX1_allWithinIf := Or.inl (gmt tc_5 21 rfl (by decide +kernel))
theorem ml_X1_65 : ML RX1 65 mX1_cofactor := Or.inl (gmt tc_5 25 rfl (by decide +kernel))
theorem ml_L_141 : ML RL 141 mX10_fragile := Or.inl (gmt tc_5 29 rfl (by decide +kernel))
theorem ml_L_145 : ML RL 145 mX10_fills := Or.inl (gmt tc_5 33 rfl (by decide +kernel))
theorem ml_L_149 : ML RL 149 mX10_pack := Or.inl (gmt tc_5 37 rfl (by decide +kernel))
theorem ml_X10_276 : ML RX10 276 mX5_mostApart := Or.inl (gmt tc_5 41 rfl (by decide +kernel))
theorem ml_X5_60 : ML RX5 60 mJ6_bitCount_0f7a4 := Or.inl (gmt tc_5 45 rfl (by decide +kernel))
theorem ml_X5_65 : ML RX5 65 mX5_areApart := Or.inl (gmt tc_5 46 rfl (by decide +kernel))
theorem ml_X10_279 : ML RX10 279 mX5_fewestMeeting := Or.inl (gmt tc_5 50 rfl (by decide +kernel))
theorem ml_L_153 : ML RL 153 mX10_adjoint := Or.inl (gmt tc_5 54 rfl (by decide +kernel))
theorem ml_L_157 : ML RL 157 mX10_cycle := Or.inl (gmt tc_5 58 rfl (by decide +kernel))
theorem ml_X10_282 : ML RX10 282 mX5_shortestRound := Or.inl (gmt tc_5 62 rfl (by decide +kernel))
theorem ml_X5_69 : ML RX5 69 mX5_roundBy := Or.inl (gmt tc_5 66 rfl (by decide +kernel))
theorem ml_L_161 : ML RL 161 mX10_step := Or.inl (gmt tc_5 70 rfl (by decide +kernel))
theorem ml_X10_285 : ML RX10 285 mX10_isScript := Or.inl (gmt tc_5 74 rfl (by decide +kernel))
theorem ml_X10_288 : ML RX10 288 mX4_tell := Or.inl (gmt tc_5 78 rfl (by decide +kernel))
theorem ml_L_165 : ML RL 165 mX10_run := Or.inl (gmt tc_5 82 rfl (by decide +kernel))
theorem ml_L_169 : ML RL 169 mX10_perform := Or.inl (gmt tc_5 86 rfl (by decide +kernel))
theorem ml_L_175 : ML RL 175 mX10_draws := Or.inl (gmt tc_5 90 rfl (by decide +kernel))
theorem ml_X10_311 : ML RX10 311 mX10_attemptDraw := Or.inl (gmt tc_5 94 rfl (by decide +kernel))
theorem ml_X10_333 : ML RX10 333 mX0_draw := Or.inl (gmt tc_5 98 rfl (by decide +kernel))
theorem ml_L_180 : ML RL 180 mX10_status := Or.inl (gmt tc_5 104 rfl (by decide +kernel))
theorem ml_L_184 : ML RL 184 mX10_image := Or.inl (gmt tc_5 108 rfl (by decide +kernel))
theorem ml_L_188 : ML RL 188 mX10_back := Or.inl (gmt tc_5 112 rfl (by decide +kernel))
theorem ml_L_192 : ML RL 192 mX10_count := Or.inl (gmt tc_5 116 rfl (by decide +kernel))
theorem ml_X10_320 : ML RX10 320 mX7_notNought := Or.inl (gmt tc_5 120 rfl (by decide +kernel))
theorem ml_L_7 : ML RL 7 mX10_entry := Or.inl (gmt tc_5 125 rfl (by decide +kernel))
theorem ml_L_18 : ML RL 18 mX11_init := Or.inl (gmt tc_5 192 rfl (by decide +kernel))
theorem ml_L_44 : ML RL 44 mX11_thrown := Or.inl (gmt tc_6 62 rfl (by decide +kernel))
theorem ml_L_23 : ML RL 23 mX11_feed := Or.inl (gmt tc_6 66 rfl (by decide +kernel))
theorem ml_X11_90 : ML RX11 90 mX11_bytesOf := Or.inl (gmt tc_6 70 rfl (by decide +kernel))
theorem ml_X11_94 : ML RX11 94 mX11_brings := Or.inl (gmt tc_6 73 rfl (by decide +kernel))
theorem ml_L_28 : ML RL 28 mX11_end := Or.inl (gmt tc_6 77 rfl (by decide +kernel))
theorem ml_L_33 : ML RL 33 mX11_fault := Or.inl (gmt tc_6 81 rfl (by decide +kernel))
theorem ml_X11_140 : ML RX11 140 mX11_isIn := Or.inl (gmt tc_6 85 rfl (by decide +kernel))
theorem ml_X11_144 : ML RX11 144 mX11_readTable := Or.inl (gmt tc_6 88 rfl (by decide +kernel))
theorem ml_X11_128 : ML RX11 128 mX11_readRow := Or.inl (gmt tc_6 92 rfl (by decide +kernel))
theorem ml_X11_118 : ML RX11 118 mX11_look := Or.inl (gmt tc_6 97 rfl (by decide +kernel))
theorem ml_X11_101 : ML RX11 101 mX11_here := Or.inl (gmt tc_6 101 rfl (by decide +kernel))
theorem ml_X11_121 : ML RX11 121 mX11_spotOf := Or.inl (gmt tc_6 105 rfl (by decide +kernel))
theorem ml_X11_108 : ML RX11 108 mJ0_length_8abf5 := Or.inl (gmt tc_6 108 rfl (by decide +kernel))
theorem ml_X11_112 : ML RX11 112 mJ0_charAt_5068e := Or.inl (gmt tc_6 109 rfl (by decide +kernel))
theorem ml_X11_125 : ML RX11 125 mX11_fails := Or.inl (gmt tc_6 110 rfl (by decide +kernel))
theorem ml_X11_147 : ML RX11 147 mX11_readPlan := Or.inl (gmt tc_6 114 rfl (by decide +kernel))
theorem ml_X11_137 : ML RX11 137 mX11_readStep := Or.inl (gmt tc_6 118 rfl (by decide +kernel))
theorem ml_X11_134 : ML RX11 134 mX11_digit := Or.inl (gmt tc_6 124 rfl (by decide +kernel))
theorem ml_L_37 : ML RL 37 mX11_text := Or.inl (gmt tc_6 128 rfl (by decide +kernel))
theorem ml_X11_153 : ML RX11 153 mX11_fault := Or.inl (gmt tc_6 132 rfl (by decide +kernel))
theorem ml_L_43 : ML RL 43 mX11_entry := Or.inl (gmt tc_6 133 rfl (by decide +kernel))
theorem ml_X11_158 : ML RX11 158 mX11_isCell := Or.inl (gmt tc_6 137 rfl (by decide +kernel))
theorem ml_L_52 : ML RL 52 mX11_change := Or.inl (gmt tc_6 141 rfl (by decide +kernel))
theorem ml_X11_164 : ML RX11 164 mX11_refused := Or.inl (gmt tc_6 146 rfl (by decide +kernel))
theorem ml_X11_167 : ML RX11 167 mX11_remember := Or.inl (gmt tc_6 150 rfl (by decide +kernel))
theorem ml_L_56 : ML RL 56 mX11_deal := Or.inl (gmt tc_6 154 rfl (by decide +kernel))
theorem ml_X11_181 : ML RX11 181 mX11_stops := Or.inl (gmt tc_6 158 rfl (by decide +kernel))
theorem ml_X11_174 : ML RX11 174 mX11_canTurn := Or.inl (gmt tc_6 162 rfl (by decide +kernel))
theorem ml_X11_170 : ML RX11 170 mX11_copy := Or.inl (gmt tc_6 166 rfl (by decide +kernel))
theorem ml_X11_185 : ML RX11 185 mX11_does := Or.inl (gmt tc_6 169 rfl (by decide +kernel))
theorem ml_X11_177 : ML RX11 177 mX11_swaps := Or.inl (gmt tc_6 173 rfl (by decide +kernel))
theorem ml_L_60 : ML RL 60 mX11_keep := Or.inl (gmt tc_6 176 rfl (by decide +kernel))
theorem ml_L_64 : ML RL 64 mX11_kept := Or.inl (gmt tc_6 180 rfl (by decide +kernel))
theorem ml_X11_192 : ML RX11 192 mX11_isKept := Or.inl (gmt tc_6 184 rfl (by decide +kernel))
theorem ml_X11_196 : ML RX11 196 mX11_keptAt := Or.inl (gmt tc_6 188 rfl (by decide +kernel))
theorem ml_L_68 : ML RL 68 mX11_join := Or.inl (gmt tc_6 192 rfl (by decide +kernel))
theorem ml_L_72 : ML RL 72 mX11_undo := Or.inl (gmt tc_6 196 rfl (by decide +kernel))
theorem ml_L_76 : ML RL 76 mX11_det := Or.inl (gmt tc_6 200 rfl (by decide +kernel))
theorem ml_X11_211 : ML RX11 211 mX11_isSquare := Or.inl (gmt tc_6 204 rfl (by decide +kernel))
theorem ml_X11_204 : ML RX11 204 mX11_sizeOf := Or.inl (gmt tc_6 208 rfl (by decide +kernel))
theorem ml_X11_207 : ML RX11 207 mX11_laysDets := Or.inl (gmt tc_6 211 rfl (by decide +kernel))
theorem ml_X11_200 : ML RX11 200 mX11_has := Or.inl (gmt tc_6 215 rfl (by decide +kernel))
theorem ml_L_80 : ML RL 80 mX11_squares := Or.inl (gmt tc_6 218 rfl (by decide +kernel))
theorem ml_L_84 : ML RL 84 mX11_total := Or.inl (gmt tc_6 228 rfl (by decide +kernel))
theorem ml_X11_227 : ML RX11 227 mX11_isTotal := Or.inl (gmt tc_6 232 rfl (by decide +kernel))
theorem ml_L_88 : ML RL 88 mX11_witness := Or.inl (gmt tc_6 236 rfl (by decide +kernel))
theorem ml_L_92 : ML RL 92 mX11_halves := Or.inl (gmt tc_7 1 rfl (by decide +kernel))
theorem ml_X11_236 : ML RX11 236 mX11_halfOf := Or.inl (gmt tc_7 5 rfl (by decide +kernel))
theorem ml_X11_233 : ML RX11 233 mX11_isHalf := Or.inl (gmt tc_7 9 rfl (by decide +kernel))
theorem ml_L_96 : ML RL 96 mX11_unhalved := Or.inl (gmt tc_7 13 rfl (by decide +kernel))
theorem ml_L_100 : ML RL 100 mX11_network := Or.inl (gmt tc_7 17 rfl (by decide +kernel))
theorem ml_X11_268 : ML RX11 268 mX11_hasTree := Or.inl (gmt tc_7 21 rfl (by decide +kernel))
theorem ml_X11_265 : ML RX11 265 mX11_laysSide := Or.inl (gmt tc_7 25 rfl (by decide +kernel))
theorem ml_X11_262 : ML RX11 262 mX11_grows := Or.inl (gmt tc_7 29 rfl (by decide +kernel))
theorem ml_X11_252 : ML RX11 252 mX11_endsAt := Or.inl (gmt tc_7 33 rfl (by decide +kernel))
theorem ml_X11_255 : ML RX11 255 mX11_bends := Or.inl (gmt tc_7 37 rfl (by decide +kernel))
theorem ml_X11_259 : ML RX11 259 mX11_areWays := Or.inl (gmt tc_7 41 rfl (by decide +kernel))
theorem ml_X11_248 : ML RX11 248 mX11_isWay := Or.inl (gmt tc_7 45 rfl (by decide +kernel))
theorem ml_X11_242 : ML RX11 242 mX11_headOf := Or.inl (gmt tc_7 49 rfl (by decide +kernel))
theorem ml_X11_245 : ML RX11 245 mX11_tailOf := Or.inl (gmt tc_7 53 rfl (by decide +kernel))
theorem ml_L_104 : ML RL 104 mX11_arc := Or.inl (gmt tc_7 57 rfl (by decide +kernel))
theorem ml_L_108 : ML RL 108 mX11_way := Or.inl (gmt tc_7 61 rfl (by decide +kernel))
theorem ml_L_112 : ML RL 112 mX11_signed := Or.inl (gmt tc_7 65 rfl (by decide +kernel))
theorem ml_X11_283 : ML RX11 283 mX11_laysSigns := Or.inl (gmt tc_7 69 rfl (by decide +kernel))
theorem ml_X11_277 : ML RX11 277 mX11_laysSteps := Or.inl (gmt tc_7 73 rfl (by decide +kernel))
theorem ml_X11_274 : ML RX11 274 mX11_areTold := Or.inl (gmt tc_7 77 rfl (by decide +kernel))
theorem ml_X11_271 : ML RX11 271 mX11_isTold := Or.inl (gmt tc_7 81 rfl (by decide +kernel))
theorem ml_X11_280 : ML RX11 280 mX11_signBetween := Or.inl (gmt tc_7 85 rfl (by decide +kernel))
theorem ml_L_116 : ML RL 116 mX11_regular := Or.inl (gmt tc_7 89 rfl (by decide +kernel))
theorem ml_L_120 : ML RL 120 mX11_scaled := Or.inl (gmt tc_7 93 rfl (by decide +kernel))
theorem ml_X11_286 : ML RX11 286 mX11_isScaled := Or.inl (gmt tc_7 97 rfl (by decide +kernel))
theorem ml_L_124 : ML RL 124 mX11_special := Or.inl (gmt tc_7 101 rfl (by decide +kernel))
theorem ml_X11_297 : ML RX11 297 mX11_doRows := Or.inl (gmt tc_7 107 rfl (by decide +kernel))
theorem ml_X11_294 : ML RX11 294 mX11_doColumns := Or.inl (gmt tc_7 111 rfl (by decide +kernel))
theorem ml_X11_290 : ML RX11 290 mX11_isLaid := Or.inl (gmt tc_7 115 rfl (by decide +kernel))
theorem ml_L_128 : ML RL 128 mX11_block := Or.inl (gmt tc_7 119 rfl (by decide +kernel))
theorem ml_X11_307 : ML RX11 307 mX11_laysParts := Or.inl (gmt tc_7 123 rfl (by decide +kernel))
theorem ml_X11_310 : ML RX11 310 mX11_isThere := Or.inl (gmt tc_7 128 rfl (by decide +kernel))
theorem ml_L_132 : ML RL 132 mX11_rank := Or.inl (gmt tc_7 132 rfl (by decide +kernel))
theorem ml_L_136 : ML RL 136 mX11_bases := Or.inl (gmt tc_7 136 rfl (by decide +kernel))
theorem ml_L_140 : ML RL 140 mX11_mends := Or.inl (gmt tc_7 140 rfl (by decide +kernel))
theorem ml_X11_313 : ML RX11 313 mX11_isTotalWith := Or.inl (gmt tc_7 144 rfl (by decide +kernel))
theorem ml_L_144 : ML RL 144 mX11_fragile := Or.inl (gmt tc_7 148 rfl (by decide +kernel))
theorem ml_L_148 : ML RL 148 mX11_fills := Or.inl (gmt tc_7 152 rfl (by decide +kernel))
theorem ml_L_152 : ML RL 152 mX11_pack := Or.inl (gmt tc_7 156 rfl (by decide +kernel))
theorem ml_X11_319 : ML RX11 319 mX11_doPack := Or.inl (gmt tc_7 160 rfl (by decide +kernel))
theorem ml_X11_316 : ML RX11 316 mX11_rowsOf := Or.inl (gmt tc_7 164 rfl (by decide +kernel))
theorem ml_X11_322 : ML RX11 322 mX11_doCover := Or.inl (gmt tc_7 168 rfl (by decide +kernel))
theorem ml_L_156 : ML RL 156 mX11_adjoint := Or.inl (gmt tc_7 172 rfl (by decide +kernel))
theorem ml_L_160 : ML RL 160 mX11_cycle := Or.inl (gmt tc_7 176 rfl (by decide +kernel))
theorem ml_L_164 : ML RL 164 mX11_step := Or.inl (gmt tc_7 180 rfl (by decide +kernel))
theorem ml_X11_325 : ML RX11 325 mX11_isPlan := Or.inl (gmt tc_7 184 rfl (by decide +kernel))
theorem ml_L_168 : ML RL 168 mX11_run := Or.inl (gmt tc_7 188 rfl (by decide +kernel))
theorem ml_X11_328 : ML RX11 328 mX11_canStep := Or.inl (gmt tc_7 192 rfl (by decide +kernel))
theorem ml_X11_332 : ML RX11 332 mX11_doesStep := Or.inl (gmt tc_7 196 rfl (by decide +kernel))
theorem ml_L_172 : ML RL 172 mX11_perform := Or.inl (gmt tc_7 200 rfl (by decide +kernel))
theorem ml_L_179 : ML RL 179 mX11_draws := Or.inl (gmt tc_7 204 rfl (by decide +kernel))
theorem ml_X11_346 : ML RX11 346 mX11_draw := Or.inl (gmt tc_7 209 rfl (by decide +kernel))
theorem ml_L_183 : ML RL 183 mX11_status := Or.inl (gmt tc_7 215 rfl (by decide +kernel))
theorem ml_L_187 : ML RL 187 mX11_image := Or.inl (gmt tc_7 219 rfl (by decide +kernel))
theorem ml_L_191 : ML RL 191 mX11_back := Or.inl (gmt tc_7 223 rfl (by decide +kernel))
theorem ml_L_195 : ML RL 195 mX11_count := Or.inl (gmt tc_7 227 rfl (by decide +kernel))
theorem fl_X8_9 : FL RX8 9 8 0 true (.array .int) := ⟨RX8, TX8, 2, rfl, cf_X8, by decide, rfl, by decide +kernel, Or.inl ⟨gmt tc_1 39 rfl (by decide +kernel), rfl⟩⟩
theorem fl_X4_28 : FL RX4 28 8 1 false .int := ⟨RX8, TX8, 2, rfl, cf_X8, by decide, rfl, by decide +kernel, Or.inr ⟨"UnimodularTables", nmt tc_1 40 rfl (by decide +kernel)⟩⟩
theorem fl_X10_103 : FL RX10 103 8 1 false .int := ⟨RX8, TX8, 2, rfl, cf_X8, by decide, rfl, by decide +kernel, Or.inr ⟨"UnimodularTables", nmt tc_1 41 rfl (by decide +kernel)⟩⟩
theorem fl_X8_15 : FL RX8 15 8 1 false .int := ⟨RX8, TX8, 2, rfl, cf_X8, by decide, rfl, by decide +kernel, Or.inl ⟨gmt tc_1 42 rfl (by decide +kernel), rfl⟩⟩
theorem fl_X7_36 : FL RX7 36 8 1 false .int := ⟨RX8, TX8, 2, rfl, cf_X8, by decide, rfl, by decide +kernel, Or.inr ⟨"UnimodularTables", nmt tc_1 43 rfl (by decide +kernel)⟩⟩
theorem fl_X7_15 : FL RX7 15 7 0 false .int := ⟨RX7, TX7, 3, rfl, cf_X7, by decide, rfl, by decide +kernel, Or.inl ⟨gmt tc_1 56 rfl (by decide +kernel), rfl⟩⟩
theorem fl_X3_25 : FL RX3 25 7 0 false .int := ⟨RX7, TX7, 3, rfl, cf_X7, by decide, rfl, by decide +kernel, Or.inr ⟨"UnimodularTables", nmt tc_1 57 rfl (by decide +kernel)⟩⟩
theorem fl_X5_24 : FL RX5 24 7 0 false .int := ⟨RX7, TX7, 3, rfl, cf_X7, by decide, rfl, by decide +kernel, Or.inr ⟨"UnimodularTables", nmt tc_1 58 rfl (by decide +kernel)⟩⟩
theorem fl_X1_15 : FL RX1 15 7 0 false .int := ⟨RX7, TX7, 3, rfl, cf_X7, by decide, rfl, by decide +kernel, Or.inr ⟨"UnimodularTables", nmt tc_1 59 rfl (by decide +kernel)⟩⟩
theorem fl_X6_31 : FL RX6 31 7 0 false .int := ⟨RX7, TX7, 3, rfl, cf_X7, by decide, rfl, by decide +kernel, Or.inr ⟨"UnimodularTables", nmt tc_1 60 rfl (by decide +kernel)⟩⟩
theorem fl_X9_41 : FL RX9 41 7 0 false .int := ⟨RX7, TX7, 3, rfl, cf_X7, by decide, rfl, by decide +kernel, Or.inr ⟨"UnimodularTables", nmt tc_1 61 rfl (by decide +kernel)⟩⟩
theorem fl_X10_170 : FL RX10 170 7 0 false .int := ⟨RX7, TX7, 3, rfl, cf_X7, by decide, rfl, by decide +kernel, Or.inr ⟨"UnimodularTables", nmt tc_1 62 rfl (by decide +kernel)⟩⟩
theorem fl_X6_35 : FL RX6 35 7 1 false .int := ⟨RX7, TX7, 3, rfl, cf_X7, by decide, rfl, by decide +kernel, Or.inr ⟨"UnimodularTables", nmt tc_1 63 rfl (by decide +kernel)⟩⟩
theorem fl_X3_29 : FL RX3 29 7 1 false .int := ⟨RX7, TX7, 3, rfl, cf_X7, by decide, rfl, by decide +kernel, Or.inr ⟨"UnimodularTables", nmt tc_1 64 rfl (by decide +kernel)⟩⟩
theorem fl_X5_31 : FL RX5 31 7 1 false .int := ⟨RX7, TX7, 3, rfl, cf_X7, by decide, rfl, by decide +kernel, Or.inr ⟨"UnimodularTables", nmt tc_1 65 rfl (by decide +kernel)⟩⟩
theorem fl_X1_24 : FL RX1 24 7 1 false .int := ⟨RX7, TX7, 3, rfl, cf_X7, by decide, rfl, by decide +kernel, Or.inr ⟨"UnimodularTables", nmt tc_1 66 rfl (by decide +kernel)⟩⟩
theorem fl_X7_19 : FL RX7 19 7 1 false .int := ⟨RX7, TX7, 3, rfl, cf_X7, by decide, rfl, by decide +kernel, Or.inl ⟨gmt tc_1 67 rfl (by decide +kernel), rfl⟩⟩
theorem fl_X9_67 : FL RX9 67 7 1 false .int := ⟨RX7, TX7, 3, rfl, cf_X7, by decide, rfl, by decide +kernel, Or.inr ⟨"UnimodularTables", nmt tc_1 68 rfl (by decide +kernel)⟩⟩
theorem fl_X10_269 : FL RX10 269 7 1 false .int := ⟨RX7, TX7, 3, rfl, cf_X7, by decide, rfl, by decide +kernel, Or.inr ⟨"UnimodularTables", nmt tc_1 69 rfl (by decide +kernel)⟩⟩
theorem fl_X7_9 : FL RX7 9 7 2 true (.array .int) := ⟨RX7, TX7, 3, rfl, cf_X7, by decide, rfl, by decide +kernel, Or.inl ⟨gmt tc_1 70 rfl (by decide +kernel), rfl⟩⟩
theorem fl_X2_11 : FL RX2 11 2 0 true (.array (.object "UnimodularTables$Table")) := ⟨RX2, TX2, 3, rfl, cf_X2, by decide, rfl, by decide +kernel, Or.inl ⟨gmt tc_1 87 rfl (by decide +kernel), rfl⟩⟩
theorem fl_X2_22 : FL RX2 22 2 1 false .int := ⟨RX2, TX2, 3, rfl, cf_X2, by decide, rfl, by decide +kernel, Or.inl ⟨gmt tc_1 88 rfl (by decide +kernel), rfl⟩⟩
theorem fl_X2_18 : FL RX2 18 2 2 false .int := ⟨RX2, TX2, 3, rfl, cf_X2, by decide, rfl, by decide +kernel, Or.inl ⟨gmt tc_1 89 rfl (by decide +kernel), rfl⟩⟩
theorem fl_X10_149 : FL RX10 149 2 2 false .int := ⟨RX2, TX2, 3, rfl, cf_X2, by decide, rfl, by decide +kernel, Or.inr ⟨"UnimodularTables", nmt tc_1 90 rfl (by decide +kernel)⟩⟩
theorem fl_X1_9 : FL RX1 9 1 0 true (.array .int) := ⟨RX1, TX1, 6, rfl, cf_X1, by decide, rfl, by decide +kernel, Or.inl ⟨gmt tc_1 106 rfl (by decide +kernel), rfl⟩⟩
theorem fl_X1_21 : FL RX1 21 1 1 false .int := ⟨RX1, TX1, 6, rfl, cf_X1, by decide, rfl, by decide +kernel, Or.inl ⟨gmt tc_1 107 rfl (by decide +kernel), rfl⟩⟩
theorem fl_X1_27 : FL RX1 27 1 2 false .int := ⟨RX1, TX1, 6, rfl, cf_X1, by decide, rfl, by decide +kernel, Or.inl ⟨gmt tc_1 108 rfl (by decide +kernel), rfl⟩⟩
theorem fl_X1_30 : FL RX1 30 1 3 false .int := ⟨RX1, TX1, 6, rfl, cf_X1, by decide, rfl, by decide +kernel, Or.inl ⟨gmt tc_1 109 rfl (by decide +kernel), rfl⟩⟩
theorem fl_X10_203 : FL RX10 203 1 3 false .int := ⟨RX1, TX1, 6, rfl, cf_X1, by decide, rfl, by decide +kernel, Or.inr ⟨"UnimodularTables", nmt tc_1 110 rfl (by decide +kernel)⟩⟩
theorem fl_X1_33 : FL RX1 33 1 4 false .int := ⟨RX1, TX1, 6, rfl, cf_X1, by decide, rfl, by decide +kernel, Or.inl ⟨gmt tc_1 111 rfl (by decide +kernel), rfl⟩⟩
theorem fl_X10_206 : FL RX10 206 1 4 false .int := ⟨RX1, TX1, 6, rfl, cf_X1, by decide, rfl, by decide +kernel, Or.inr ⟨"UnimodularTables", nmt tc_1 112 rfl (by decide +kernel)⟩⟩
theorem fl_X10_339 : FL RX10 339 1 5 false .boolean := ⟨RX1, TX1, 6, rfl, cf_X1, by decide, rfl, by decide +kernel, Or.inr ⟨"UnimodularTables", nmt tc_1 113 rfl (by decide +kernel)⟩⟩
theorem fl_X9_12 : FL RX9 12 9 0 true (.object "UnimodularTables$Table") := ⟨RX9, TX9, 5, rfl, cf_X9, by decide, rfl, by decide +kernel, Or.inl ⟨gmt tc_1 135 rfl (by decide +kernel), rfl⟩⟩
theorem fl_X9_18 : FL RX9 18 9 1 true (.array .int) := ⟨RX9, TX9, 5, rfl, cf_X9, by decide, rfl, by decide +kernel, Or.inl ⟨gmt tc_1 136 rfl (by decide +kernel), rfl⟩⟩
theorem fl_X9_22 : FL RX9 22 9 2 true (.array .int) := ⟨RX9, TX9, 5, rfl, cf_X9, by decide, rfl, by decide +kernel, Or.inl ⟨gmt tc_1 137 rfl (by decide +kernel), rfl⟩⟩
theorem fl_X9_37 : FL RX9 37 9 3 false .boolean := ⟨RX9, TX9, 5, rfl, cf_X9, by decide, rfl, by decide +kernel, Or.inl ⟨gmt tc_1 138 rfl (by decide +kernel), rfl⟩⟩
theorem fl_X10_219 : FL RX10 219 9 3 false .boolean := ⟨RX9, TX9, 5, rfl, cf_X9, by decide, rfl, by decide +kernel, Or.inr ⟨"UnimodularTables", nmt tc_1 139 rfl (by decide +kernel)⟩⟩
theorem fl_X10_342 : FL RX10 342 9 4 false .boolean := ⟨RX9, TX9, 5, rfl, cf_X9, by decide, rfl, by decide +kernel, Or.inr ⟨"UnimodularTables", nmt tc_1 140 rfl (by decide +kernel)⟩⟩
theorem fl_X6_12 : FL RX6 12 6 0 true (.object "UnimodularTables$Table") := ⟨RX6, TX6, 8, rfl, cf_X6, by decide, rfl, by decide +kernel, Or.inl ⟨gmt tc_1 160 rfl (by decide +kernel), rfl⟩⟩
theorem fl_X10_354 : FL RX10 354 6 0 true (.object "UnimodularTables$Table") := ⟨RX6, TX6, 8, rfl, cf_X6, by decide, rfl, by decide +kernel, Or.inr ⟨"UnimodularTables", nmt tc_1 161 rfl (by decide +kernel)⟩⟩
theorem fl_X6_18 : FL RX6 18 6 1 true (.array .int) := ⟨RX6, TX6, 8, rfl, cf_X6, by decide, rfl, by decide +kernel, Or.inl ⟨gmt tc_1 162 rfl (by decide +kernel), rfl⟩⟩
theorem fl_X6_22 : FL RX6 22 6 2 true (.array .int) := ⟨RX6, TX6, 8, rfl, cf_X6, by decide, rfl, by decide +kernel, Or.inl ⟨gmt tc_1 163 rfl (by decide +kernel), rfl⟩⟩
theorem fl_X6_25 : FL RX6 25 6 3 true (.array .int) := ⟨RX6, TX6, 8, rfl, cf_X6, by decide, rfl, by decide +kernel, Or.inl ⟨gmt tc_1 164 rfl (by decide +kernel), rfl⟩⟩
theorem fl_X6_28 : FL RX6 28 6 4 true (.array .int) := ⟨RX6, TX6, 8, rfl, cf_X6, by decide, rfl, by decide +kernel, Or.inl ⟨gmt tc_1 165 rfl (by decide +kernel), rfl⟩⟩
theorem fl_X6_57 : FL RX6 57 6 5 false .int := ⟨RX6, TX6, 8, rfl, cf_X6, by decide, rfl, by decide +kernel, Or.inl ⟨gmt tc_1 166 rfl (by decide +kernel), rfl⟩⟩
theorem fl_X6_50 : FL RX6 50 6 6 false .int := ⟨RX6, TX6, 8, rfl, cf_X6, by decide, rfl, by decide +kernel, Or.inl ⟨gmt tc_1 167 rfl (by decide +kernel), rfl⟩⟩
theorem fl_X10_343 : FL RX10 343 6 7 false .boolean := ⟨RX6, TX6, 8, rfl, cf_X6, by decide, rfl, by decide +kernel, Or.inr ⟨"UnimodularTables", nmt tc_1 168 rfl (by decide +kernel)⟩⟩
theorem fl_X5_30 : FL RX5 30 5 0 false .int := ⟨RX5, TX5, 7, rfl, cf_X5, by decide, rfl, by decide +kernel, Or.inl ⟨gmt tc_1 192 rfl (by decide +kernel), rfl⟩⟩
theorem fl_X5_34 : FL RX5 34 5 1 false .int := ⟨RX5, TX5, 7, rfl, cf_X5, by decide, rfl, by decide +kernel, Or.inl ⟨gmt tc_1 193 rfl (by decide +kernel), rfl⟩⟩
theorem fl_X5_9 : FL RX5 9 5 2 true (.array .int) := ⟨RX5, TX5, 7, rfl, cf_X5, by decide, rfl, by decide +kernel, Or.inl ⟨gmt tc_1 194 rfl (by decide +kernel), rfl⟩⟩
theorem fl_X5_15 : FL RX5 15 5 3 true (.array .int) := ⟨RX5, TX5, 7, rfl, cf_X5, by decide, rfl, by decide +kernel, Or.inl ⟨gmt tc_1 195 rfl (by decide +kernel), rfl⟩⟩
theorem fl_X5_43 : FL RX5 43 5 4 false .int := ⟨RX5, TX5, 7, rfl, cf_X5, by decide, rfl, by decide +kernel, Or.inl ⟨gmt tc_1 196 rfl (by decide +kernel), rfl⟩⟩
theorem fl_X10_254 : FL RX10 254 5 4 false .int := ⟨RX5, TX5, 7, rfl, cf_X5, by decide, rfl, by decide +kernel, Or.inr ⟨"UnimodularTables", nmt tc_1 197 rfl (by decide +kernel)⟩⟩
theorem fl_X5_18 : FL RX5 18 5 5 true (.array .int) := ⟨RX5, TX5, 7, rfl, cf_X5, by decide, rfl, by decide +kernel, Or.inl ⟨gmt tc_1 198 rfl (by decide +kernel), rfl⟩⟩
theorem fl_X5_21 : FL RX5 21 5 6 true (.array .int) := ⟨RX5, TX5, 7, rfl, cf_X5, by decide, rfl, by decide +kernel, Or.inl ⟨gmt tc_1 199 rfl (by decide +kernel), rfl⟩⟩
theorem fl_X3_12 : FL RX3 12 3 0 true (.object "UnimodularTables$Table") := ⟨RX3, TX3, 3, rfl, cf_X3, by decide, rfl, by decide +kernel, Or.inl ⟨gmt tc_1 223 rfl (by decide +kernel), rfl⟩⟩
theorem fl_X3_18 : FL RX3 18 3 1 true (.object "UnimodularTables$Table") := ⟨RX3, TX3, 3, rfl, cf_X3, by decide, rfl, by decide +kernel, Or.inl ⟨gmt tc_1 224 rfl (by decide +kernel), rfl⟩⟩
theorem fl_X3_21 : FL RX3 21 3 2 true (.array .int) := ⟨RX3, TX3, 3, rfl, cf_X3, by decide, rfl, by decide +kernel, Or.inl ⟨gmt tc_1 225 rfl (by decide +kernel), rfl⟩⟩
theorem fl_X0_7 : FL RX0 7 0 0 false .long := ⟨RX0, TX0, 1, rfl, cf_X0, by decide, rfl, by decide +kernel, Or.inl ⟨gmt tc_1 239 rfl (by decide +kernel), rfl⟩⟩
theorem fl_X10_307 : FL RX10 307 0 0 false .long := ⟨RX0, TX0, 1, rfl, cf_X0, by decide, rfl, by decide +kernel, Or.inr ⟨"UnimodularTables", nmt tc_2 0 rfl (by decide +kernel)⟩⟩
theorem fl_X4_24 : FL RX4 24 4 0 false .int := ⟨RX4, TX4, 5, rfl, cf_X4, by decide, rfl, by decide +kernel, Or.inl ⟨gmt tc_2 9 rfl (by decide +kernel), rfl⟩⟩
theorem fl_X10_291 : FL RX10 291 4 0 false .int := ⟨RX4, TX4, 5, rfl, cf_X4, by decide, rfl, by decide +kernel, Or.inr ⟨"UnimodularTables", nmt tc_2 10 rfl (by decide +kernel)⟩⟩
theorem fl_X4_9 : FL RX4 9 4 1 true (.array .int) := ⟨RX4, TX4, 5, rfl, cf_X4, by decide, rfl, by decide +kernel, Or.inl ⟨gmt tc_2 11 rfl (by decide +kernel), rfl⟩⟩
theorem fl_X10_292 : FL RX10 292 4 1 true (.array .int) := ⟨RX4, TX4, 5, rfl, cf_X4, by decide, rfl, by decide +kernel, Or.inr ⟨"UnimodularTables", nmt tc_2 12 rfl (by decide +kernel)⟩⟩
theorem fl_X4_15 : FL RX4 15 4 2 true (.array .int) := ⟨RX4, TX4, 5, rfl, cf_X4, by decide, rfl, by decide +kernel, Or.inl ⟨gmt tc_2 13 rfl (by decide +kernel), rfl⟩⟩
theorem fl_X10_295 : FL RX10 295 4 2 true (.array .int) := ⟨RX4, TX4, 5, rfl, cf_X4, by decide, rfl, by decide +kernel, Or.inr ⟨"UnimodularTables", nmt tc_2 14 rfl (by decide +kernel)⟩⟩
theorem fl_X4_18 : FL RX4 18 4 3 true (.array .int) := ⟨RX4, TX4, 5, rfl, cf_X4, by decide, rfl, by decide +kernel, Or.inl ⟨gmt tc_2 15 rfl (by decide +kernel), rfl⟩⟩
theorem fl_X10_298 : FL RX10 298 4 3 true (.array .int) := ⟨RX4, TX4, 5, rfl, cf_X4, by decide, rfl, by decide +kernel, Or.inr ⟨"UnimodularTables", nmt tc_2 16 rfl (by decide +kernel)⟩⟩
theorem fl_X4_21 : FL RX4 21 4 4 true (.array .int) := ⟨RX4, TX4, 5, rfl, cf_X4, by decide, rfl, by decide +kernel, Or.inl ⟨gmt tc_2 17 rfl (by decide +kernel), rfl⟩⟩
theorem fl_X10_301 : FL RX10 301 4 4 true (.array .int) := ⟨RX4, TX4, 5, rfl, cf_X4, by decide, rfl, by decide +kernel, Or.inr ⟨"UnimodularTables", nmt tc_2 18 rfl (by decide +kernel)⟩⟩
theorem fl_X10_12 : FL RX10 12 10 0 true (.object "UnimodularTables$Tape") := ⟨RX10, TX10, 19, rfl, cf_X10, by decide, rfl, by decide +kernel, Or.inl ⟨gmt tc_2 30 rfl (by decide +kernel), rfl⟩⟩
theorem fl_X10_19 : FL RX10 19 10 1 true (.object "UnimodularTables$Table") := ⟨RX10, TX10, 19, rfl, cf_X10, by decide, rfl, by decide +kernel, Or.inl ⟨gmt tc_2 31 rfl (by decide +kernel), rfl⟩⟩
theorem fl_X10_23 : FL RX10 23 10 2 true (.object "UnimodularTables$Table") := ⟨RX10, TX10, 19, rfl, cf_X10, by decide, rfl, by decide +kernel, Or.inl ⟨gmt tc_2 32 rfl (by decide +kernel), rfl⟩⟩
theorem fl_X10_26 : FL RX10 26 10 3 true (.object "UnimodularTables$Table") := ⟨RX10, TX10, 19, rfl, cf_X10, by decide, rfl, by decide +kernel, Or.inl ⟨gmt tc_2 33 rfl (by decide +kernel), rfl⟩⟩
theorem fl_X10_32 : FL RX10 32 10 4 true (.object "UnimodularTables$Past") := ⟨RX10, TX10, 19, rfl, cf_X10, by decide, rfl, by decide +kernel, Or.inl ⟨gmt tc_2 34 rfl (by decide +kernel), rfl⟩⟩
theorem fl_X10_36 : FL RX10 36 10 5 true (.array (.object "UnimodularTables$Table")) := ⟨RX10, TX10, 19, rfl, cf_X10, by decide, rfl, by decide +kernel, Or.inl ⟨gmt tc_2 35 rfl (by decide +kernel), rfl⟩⟩
theorem fl_X10_156 : FL RX10 156 10 6 false .int := ⟨RX10, TX10, 19, rfl, cf_X10, by decide, rfl, by decide +kernel, Or.inl ⟨gmt tc_2 36 rfl (by decide +kernel), rfl⟩⟩
theorem fl_X10_42 : FL RX10 42 10 7 true (.array (.object "UnimodularTables$Script")) := ⟨RX10, TX10, 19, rfl, cf_X10, by decide, rfl, by decide +kernel, Or.inl ⟨gmt tc_2 37 rfl (by decide +kernel), rfl⟩⟩
theorem fl_X10_115 : FL RX10 115 10 8 false .int := ⟨RX10, TX10, 19, rfl, cf_X10, by decide, rfl, by decide +kernel, Or.inl ⟨gmt tc_2 38 rfl (by decide +kernel), rfl⟩⟩
theorem fl_X10_46 : FL RX10 46 10 9 true (.object "UnimodularTables$Table") := ⟨RX10, TX10, 19, rfl, cf_X10, by decide, rfl, by decide +kernel, Or.inl ⟨gmt tc_2 39 rfl (by decide +kernel), rfl⟩⟩
theorem fl_X10_314 : FL RX10 314 10 10 false .int := ⟨RX10, TX10, 19, rfl, cf_X10, by decide, rfl, by decide +kernel, Or.inl ⟨gmt tc_2 40 rfl (by decide +kernel), rfl⟩⟩
theorem fl_X10_49 : FL RX10 49 10 11 true (.array .int) := ⟨RX10, TX10, 19, rfl, cf_X10, by decide, rfl, by decide +kernel, Or.inl ⟨gmt tc_2 41 rfl (by decide +kernel), rfl⟩⟩
theorem fl_X10_56 : FL RX10 56 10 12 true (.object "UnimodularTables$Minors") := ⟨RX10, TX10, 19, rfl, cf_X10, by decide, rfl, by decide +kernel, Or.inl ⟨gmt tc_2 42 rfl (by decide +kernel), rfl⟩⟩
theorem fl_X10_63 : FL RX10 63 10 13 true (.object "UnimodularTables$Tree") := ⟨RX10, TX10, 19, rfl, cf_X10, by decide, rfl, by decide +kernel, Or.inl ⟨gmt tc_2 43 rfl (by decide +kernel), rfl⟩⟩
theorem fl_X10_67 : FL RX10 67 10 14 true (.object "UnimodularTables$Tree") := ⟨RX10, TX10, 19, rfl, cf_X10, by decide, rfl, by decide +kernel, Or.inl ⟨gmt tc_2 44 rfl (by decide +kernel), rfl⟩⟩
theorem fl_X10_73 : FL RX10 73 10 15 true (.object "UnimodularTables$Signing") := ⟨RX10, TX10, 19, rfl, cf_X10, by decide, rfl, by decide +kernel, Or.inl ⟨gmt tc_2 45 rfl (by decide +kernel), rfl⟩⟩
theorem fl_X10_80 : FL RX10 80 10 16 true (.object "UnimodularTables$Shape") := ⟨RX10, TX10, 19, rfl, cf_X10, by decide, rfl, by decide +kernel, Or.inl ⟨gmt tc_2 46 rfl (by decide +kernel), rfl⟩⟩
theorem fl_X10_87 : FL RX10 87 10 17 true (.object "UnimodularTables$Pattern") := ⟨RX10, TX10, 19, rfl, cf_X10, by decide, rfl, by decide +kernel, Or.inl ⟨gmt tc_2 47 rfl (by decide +kernel), rfl⟩⟩
theorem fl_X10_94 : FL RX10 94 10 18 true (.object "UnimodularTables$Dice") := ⟨RX10, TX10, 19, rfl, cf_X10, by decide, rfl, by decide +kernel, Or.inl ⟨gmt tc_2 48 rfl (by decide +kernel), rfl⟩⟩
theorem fl_X11_83 : FL RX11 83 11 0 false .int := ⟨RX11, TX11, 35, rfl, cf_X11, by decide, rfl, by decide +kernel, Or.inl ⟨gmt tc_5 196 rfl (by decide +kernel), rfl⟩⟩
theorem fl_X11_9 : FL RX11 9 11 1 true (.array .byte) := ⟨RX11, TX11, 35, rfl, cf_X11, by decide, rfl, by decide +kernel, Or.inl ⟨gmt tc_5 197 rfl (by decide +kernel), rfl⟩⟩
theorem fl_X11_87 : FL RX11 87 11 2 false .int := ⟨RX11, TX11, 35, rfl, cf_X11, by decide, rfl, by decide +kernel, Or.inl ⟨gmt tc_5 198 rfl (by decide +kernel), rfl⟩⟩
theorem fl_X11_98 : FL RX11 98 11 3 false .int := ⟨RX11, TX11, 35, rfl, cf_X11, by decide, rfl, by decide +kernel, Or.inl ⟨gmt tc_5 199 rfl (by decide +kernel), rfl⟩⟩
theorem fl_X11_105 : FL RX11 105 11 4 false .int := ⟨RX11, TX11, 35, rfl, cf_X11, by decide, rfl, by decide +kernel, Or.inl ⟨gmt tc_5 200 rfl (by decide +kernel), rfl⟩⟩
theorem fl_X11_13 : FL RX11 13 11 5 true (.array .int) := ⟨RX11, TX11, 35, rfl, cf_X11, by decide, rfl, by decide +kernel, Or.inl ⟨gmt tc_5 201 rfl (by decide +kernel), rfl⟩⟩
theorem fl_X11_17 : FL RX11 17 11 6 true (.array .int) := ⟨RX11, TX11, 35, rfl, cf_X11, by decide, rfl, by decide +kernel, Or.inl ⟨gmt tc_5 202 rfl (by decide +kernel), rfl⟩⟩
theorem fl_X11_20 : FL RX11 20 11 7 true (.array .int) := ⟨RX11, TX11, 35, rfl, cf_X11, by decide, rfl, by decide +kernel, Or.inl ⟨gmt tc_5 203 rfl (by decide +kernel), rfl⟩⟩
theorem fl_X11_23 : FL RX11 23 11 8 true (.array .int) := ⟨RX11, TX11, 35, rfl, cf_X11, by decide, rfl, by decide +kernel, Or.inl ⟨gmt tc_5 204 rfl (by decide +kernel), rfl⟩⟩
theorem fl_X11_26 : FL RX11 26 11 9 true (.array .int) := ⟨RX11, TX11, 35, rfl, cf_X11, by decide, rfl, by decide +kernel, Or.inl ⟨gmt tc_5 205 rfl (by decide +kernel), rfl⟩⟩
theorem fl_X11_29 : FL RX11 29 11 10 true (.array .int) := ⟨RX11, TX11, 35, rfl, cf_X11, by decide, rfl, by decide +kernel, Or.inl ⟨gmt tc_5 206 rfl (by decide +kernel), rfl⟩⟩
theorem fl_X11_32 : FL RX11 32 11 11 true (.array .int) := ⟨RX11, TX11, 35, rfl, cf_X11, by decide, rfl, by decide +kernel, Or.inl ⟨gmt tc_5 207 rfl (by decide +kernel), rfl⟩⟩
theorem fl_X11_189 : FL RX11 189 11 12 false .int := ⟨RX11, TX11, 35, rfl, cf_X11, by decide, rfl, by decide +kernel, Or.inl ⟨gmt tc_5 208 rfl (by decide +kernel), rfl⟩⟩
theorem fl_X11_150 : FL RX11 150 11 13 false .int := ⟨RX11, TX11, 35, rfl, cf_X11, by decide, rfl, by decide +kernel, Or.inl ⟨gmt tc_5 209 rfl (by decide +kernel), rfl⟩⟩
theorem fl_X11_35 : FL RX11 35 11 14 true (.array .int) := ⟨RX11, TX11, 35, rfl, cf_X11, by decide, rfl, by decide +kernel, Or.inl ⟨gmt tc_5 210 rfl (by decide +kernel), rfl⟩⟩
theorem fl_X11_155 : FL RX11 155 11 15 false .int := ⟨RX11, TX11, 35, rfl, cf_X11, by decide, rfl, by decide +kernel, Or.inl ⟨gmt tc_5 211 rfl (by decide +kernel), rfl⟩⟩
theorem fl_X11_38 : FL RX11 38 11 16 true (.array .int) := ⟨RX11, TX11, 35, rfl, cf_X11, by decide, rfl, by decide +kernel, Or.inl ⟨gmt tc_5 212 rfl (by decide +kernel), rfl⟩⟩
theorem fl_X11_41 : FL RX11 41 11 17 true (.array .int) := ⟨RX11, TX11, 35, rfl, cf_X11, by decide, rfl, by decide +kernel, Or.inl ⟨gmt tc_5 213 rfl (by decide +kernel), rfl⟩⟩
theorem fl_X11_44 : FL RX11 44 11 18 true (.array .int) := ⟨RX11, TX11, 35, rfl, cf_X11, by decide, rfl, by decide +kernel, Or.inl ⟨gmt tc_5 214 rfl (by decide +kernel), rfl⟩⟩
theorem fl_X11_47 : FL RX11 47 11 19 true (.array .int) := ⟨RX11, TX11, 35, rfl, cf_X11, by decide, rfl, by decide +kernel, Or.inl ⟨gmt tc_5 215 rfl (by decide +kernel), rfl⟩⟩
theorem fl_X11_50 : FL RX11 50 11 20 true (.array .int) := ⟨RX11, TX11, 35, rfl, cf_X11, by decide, rfl, by decide +kernel, Or.inl ⟨gmt tc_5 216 rfl (by decide +kernel), rfl⟩⟩
theorem fl_X11_239 : FL RX11 239 11 21 false .int := ⟨RX11, TX11, 35, rfl, cf_X11, by decide, rfl, by decide +kernel, Or.inl ⟨gmt tc_5 217 rfl (by decide +kernel), rfl⟩⟩
theorem fl_X11_53 : FL RX11 53 11 22 true (.array .int) := ⟨RX11, TX11, 35, rfl, cf_X11, by decide, rfl, by decide +kernel, Or.inl ⟨gmt tc_5 218 rfl (by decide +kernel), rfl⟩⟩
theorem fl_X11_56 : FL RX11 56 11 23 true (.array .int) := ⟨RX11, TX11, 35, rfl, cf_X11, by decide, rfl, by decide +kernel, Or.inl ⟨gmt tc_5 219 rfl (by decide +kernel), rfl⟩⟩
theorem fl_X11_59 : FL RX11 59 11 24 true (.array .int) := ⟨RX11, TX11, 35, rfl, cf_X11, by decide, rfl, by decide +kernel, Or.inl ⟨gmt tc_5 220 rfl (by decide +kernel), rfl⟩⟩
theorem fl_X11_62 : FL RX11 62 11 25 true (.array .int) := ⟨RX11, TX11, 35, rfl, cf_X11, by decide, rfl, by decide +kernel, Or.inl ⟨gmt tc_5 221 rfl (by decide +kernel), rfl⟩⟩
theorem fl_X11_65 : FL RX11 65 11 26 true (.array .int) := ⟨RX11, TX11, 35, rfl, cf_X11, by decide, rfl, by decide +kernel, Or.inl ⟨gmt tc_5 222 rfl (by decide +kernel), rfl⟩⟩
theorem fl_X11_68 : FL RX11 68 11 27 true (.array .int) := ⟨RX11, TX11, 35, rfl, cf_X11, by decide, rfl, by decide +kernel, Or.inl ⟨gmt tc_5 223 rfl (by decide +kernel), rfl⟩⟩
theorem fl_X11_71 : FL RX11 71 11 28 true (.array .int) := ⟨RX11, TX11, 35, rfl, cf_X11, by decide, rfl, by decide +kernel, Or.inl ⟨gmt tc_5 224 rfl (by decide +kernel), rfl⟩⟩
theorem fl_X11_74 : FL RX11 74 11 29 true (.array .int) := ⟨RX11, TX11, 35, rfl, cf_X11, by decide, rfl, by decide +kernel, Or.inl ⟨gmt tc_5 225 rfl (by decide +kernel), rfl⟩⟩
theorem fl_X11_77 : FL RX11 77 11 30 true (.array .int) := ⟨RX11, TX11, 35, rfl, cf_X11, by decide, rfl, by decide +kernel, Or.inl ⟨gmt tc_5 226 rfl (by decide +kernel), rfl⟩⟩
theorem fl_X11_336 : FL RX11 336 11 31 false .long := ⟨RX11, TX11, 35, rfl, cf_X11, by decide, rfl, by decide +kernel, Or.inl ⟨gmt tc_5 227 rfl (by decide +kernel), rfl⟩⟩
theorem fl_X11_80 : FL RX11 80 11 32 true (.array .int) := ⟨RX11, TX11, 35, rfl, cf_X11, by decide, rfl, by decide +kernel, Or.inl ⟨gmt tc_5 228 rfl (by decide +kernel), rfl⟩⟩
theorem fl_X11_349 : FL RX11 349 11 33 false .int := ⟨RX11, TX11, 35, rfl, cf_X11, by decide, rfl, by decide +kernel, Or.inl ⟨gmt tc_5 229 rfl (by decide +kernel), rfl⟩⟩
theorem fl_X11_352 : FL RX11 352 11 34 false .boolean := ⟨RX11, TX11, 35, rfl, cf_X11, by decide, rfl, by decide +kernel, Or.inl ⟨gmt tc_5 230 rfl (by decide +kernel), rfl⟩⟩
theorem kc_X10_145 : Cond.constant RX10 145 (-1000000) ∈ lw_gl := gmt tc_2 122 rfl (by decide +kernel)
theorem kc_X7_47 : Cond.constant RX7 47 (-1000000) ∈ lw_gl := gmt tc_2 123 rfl (by decide +kernel)
theorem kc_J2_227 : Cond.constant RJ2 227 (65536) ∈ lw_gl := gmt tc_2 189 rfl (by decide +kernel)
theorem kc_J11_110 : Cond.constant RJ11 110 (55232) ∈ lw_gl := gmt tc_2 228 rfl (by decide +kernel)
theorem kc_J11_76 : Cond.constant RJ11 76 (56320) ∈ lw_gl := gmt tc_2 232 rfl (by decide +kernel)
theorem kc_X4_58 : Cond.constant RX4 58 (-1000000) ∈ lw_gl := gmt tc_2 233 rfl (by decide +kernel)
theorem kc_J6_265 : Cond.constant RJ6 265 (1431655765) ∈ lw_gl := gmt tc_3 162 rfl (by decide +kernel)
theorem kc_J6_266 : Cond.constant RJ6 266 (858993459) ∈ lw_gl := gmt tc_3 163 rfl (by decide +kernel)
theorem kc_J6_267 : Cond.constant RJ6 267 (252645135) ∈ lw_gl := gmt tc_3 164 rfl (by decide +kernel)
theorem kc_X6_75 : Cond.constant RX6 75 (36000) ∈ lw_gl := gmt tc_4 95 rfl (by decide +kernel)
theorem kc_X3_68 : Cond.constant RX3 68 (-1000000) ∈ lw_gl := gmt tc_4 177 rfl (by decide +kernel)
theorem kc_X0_13 : Cond.constantLong RX0 13 (6364136223846793005) ∈ lw_gl := gmt tc_5 102 rfl (by decide +kernel)
theorem kc_X0_15 : Cond.constantLong RX0 15 (1442695040888963407) ∈ lw_gl := gmt tc_5 103 rfl (by decide +kernel)
theorem kc_X11_133 : Cond.constant RX11 133 (-1000000) ∈ lw_gl := gmt tc_6 123 rfl (by decide +kernel)
theorem kc_X11_162 : Cond.constantLong RX11 162 (-1) ∈ lw_gl := gmt tc_6 145 rfl (by decide +kernel)
theorem kc_X11_214 : Cond.constantLong RX11 214 (6) ∈ lw_gl := gmt tc_6 222 rfl (by decide +kernel)
theorem kc_X11_216 : Cond.constantLong RX11 216 (2) ∈ lw_gl := gmt tc_6 223 rfl (by decide +kernel)
theorem kc_X11_231 : Cond.constantLong RX11 231 (3) ∈ lw_gl := gmt tc_7 0 rfl (by decide +kernel)
theorem kc_X11_344 : Cond.constantLong RX11 344 (30) ∈ lw_gl := gmt tc_7 208 rfl (by decide +kernel)
theorem kc_X11_340 : Cond.constantLong RX11 340 (6364136223846793005) ∈ lw_gl := gmt tc_7 213 rfl (by decide +kernel)
theorem kc_X11_342 : Cond.constantLong RX11 342 (1442695040888963407) ∈ lw_gl := gmt tc_7 214 rfl (by decide +kernel)
theorem kc_L_173 : Cond.constantLong RL 173 (4294967295) ∈ lw_gl := gmt tc_7 231 rfl (by decide +kernel)
theorem gw_objinst : Cond.instanceMethod Lib.objectInit ∈ lw_gl := gmt tc_1 31 rfl (by decide +kernel)
theorem gw_objcode : Cond.code Lib.objectInit ⟨#[0xb1]⟩ 1 none ∈ lw_gl := gmt tc_1 32 rfl (by decide +kernel)
theorem gw_obj_X10_3 : Cond.methodLink RX10 3 Lib.objectInit ∈ lw_gl := gmt tc_1 30 rfl (by decide +kernel)
theorem gw_obj_X8_3 : Cond.methodLink RX8 3 Lib.objectInit ∈ lw_gl := gmt tc_1 38 rfl (by decide +kernel)
theorem gw_obj_X7_3 : Cond.methodLink RX7 3 Lib.objectInit ∈ lw_gl := gmt tc_1 55 rfl (by decide +kernel)
theorem gw_obj_X2_3 : Cond.methodLink RX2 3 Lib.objectInit ∈ lw_gl := gmt tc_1 83 rfl (by decide +kernel)
theorem gw_obj_X1_3 : Cond.methodLink RX1 3 Lib.objectInit ∈ lw_gl := gmt tc_1 105 rfl (by decide +kernel)
theorem gw_obj_X9_3 : Cond.methodLink RX9 3 Lib.objectInit ∈ lw_gl := gmt tc_1 132 rfl (by decide +kernel)
theorem gw_obj_X6_3 : Cond.methodLink RX6 3 Lib.objectInit ∈ lw_gl := gmt tc_1 157 rfl (by decide +kernel)
theorem gw_obj_X5_3 : Cond.methodLink RX5 3 Lib.objectInit ∈ lw_gl := gmt tc_1 191 rfl (by decide +kernel)
theorem gw_obj_X3_3 : Cond.methodLink RX3 3 Lib.objectInit ∈ lw_gl := gmt tc_1 220 rfl (by decide +kernel)
theorem gw_obj_X0_1 : Cond.methodLink RX0 1 Lib.objectInit ∈ lw_gl := gmt tc_1 238 rfl (by decide +kernel)
theorem gw_obj_X4_3 : Cond.methodLink RX4 3 Lib.objectInit ∈ lw_gl := gmt tc_2 8 rfl (by decide +kernel)
theorem gw_cpy_X7_22 : Cond.methodLink RX7 22 arraycopyName ∈ lw_gl := gmt tc_3 12 rfl (by decide +kernel)
theorem gw_obj_X11_3 : Cond.methodLink RX11 3 Lib.objectInit ∈ lw_gl := gmt tc_5 195 rfl (by decide +kernel)
theorem gw_cpys : Cond.static arraycopyName ∈ lw_gl := gmt tc_3 13 rfl (by decide +kernel)
theorem gw_cpyn : Cond.native arraycopyName ∈ lw_gl := gmt tc_3 14 rfl (by decide +kernel)
theorem gw_sys : Cond.initialized "java/lang/System" ∈ lw_gl := gmt tc_1 19 rfl (by decide +kernel)
end
section
/-! ===== the world behind the constructors: what each numbered cell is ===== -/
/-- 0 int row, 1 byte row, 5 long row (length); 2 an object (its class's number; its fields: 0 an int, 1 a long, 2 a reference); 3, 4 a row of references -/
abbrev ld : Type := Nat × Nat × List (Nat × Nat)
/-- what changes: the objects' ints, their longs, the rows of ints -/
abbrev sg : Type := (Nat → Nat → Int32) × (Nat → Int64) × (Nat → Nat → Int32)
def fv (g : Nat → Int32) (x : Int64) : Nat → List (Nat × Nat) → List Value
  | _, [] => []
  | k, (0, _) :: t => .int (g k) :: fv g x (k + 1) t
  | k, (1, _) :: t => .long x :: fv g x (k + 1) t
  | k, (_ + 2, a) :: t => .ref a :: fv g x (k + 1) t
def cellF (σ : sg) (i : Nat) (d : ld) : aE := match d with
  | (0, n, _) => .inl (0, n, .inl (σ.2.2 i))
  | (1, n, _) => .inl (1, n, .inl (σ.2.2 i))
  | (2, c, fl) => .inr (c, fv (σ.1 i) (σ.2.1 i) 0 fl)
  | (5, n, _) => .inl (2, n, .inr (.inl (fun _ => σ.2.1 i)))
  | (t, n, fl) => .inl (t, n, .inr (.inr (.inr (.inr (fun j => (fl[j]?).map Prod.snd)))))

def LAY : List ld := [
  (2, 10, [(2, 17), (2, 19), (2, 21), (2, 23), (2, 25), (2, 107), (0, 0), (2, 108), (0, 0), (2, 109), (0, 0), (2, 111), (2, 112), (2, 114), (2, 119), (2, 124), (2, 131), (2, 136), (2, 142)]),
  (2, 8, [(2, 18), (0, 0)]),
  (0, 240, []),
  (2, 7, [(0, 0), (0, 0), (2, 20)]),
  (0, 36, []),
  (2, 7, [(0, 0), (0, 0), (2, 22)]),
  (0, 36, []),
  (2, 7, [(0, 0), (0, 0), (2, 24)]),
  (0, 36, []),
  (2, 2, [(2, 26), (0, 0), (0, 0)]),
  (3, 40, [(2, 27), (2, 29), (2, 31), (2, 33), (2, 35), (2, 37), (2, 39), (2, 41), (2, 43), (2, 45), (2, 47), (2, 49), (2, 51), (2, 53), (2, 55), (2, 57), (2, 59), (2, 61), (2, 63), (2, 65), (2, 67), (2, 69), (2, 71), (2, 73), (2, 75), (2, 77), (2, 79), (2, 81), (2, 83), (2, 85), (2, 87), (2, 89), (2, 91), (2, 93), (2, 95), (2, 97), (2, 99), (2, 101), (2, 103), (2, 105)]),
  (2, 7, [(0, 0), (0, 0), (2, 28)]),
  (0, 36, []),
  (2, 7, [(0, 0), (0, 0), (2, 30)]),
  (0, 36, []),
  (2, 7, [(0, 0), (0, 0), (2, 32)]),
  (0, 36, []),
  (2, 7, [(0, 0), (0, 0), (2, 34)]),
  (0, 36, []),
  (2, 7, [(0, 0), (0, 0), (2, 36)]),
  (0, 36, []),
  (2, 7, [(0, 0), (0, 0), (2, 38)]),
  (0, 36, []),
  (2, 7, [(0, 0), (0, 0), (2, 40)]),
  (0, 36, []),
  (2, 7, [(0, 0), (0, 0), (2, 42)]),
  (0, 36, []),
  (2, 7, [(0, 0), (0, 0), (2, 44)]),
  (0, 36, []),
  (2, 7, [(0, 0), (0, 0), (2, 46)]),
  (0, 36, []),
  (2, 7, [(0, 0), (0, 0), (2, 48)]),
  (0, 36, []),
  (2, 7, [(0, 0), (0, 0), (2, 50)]),
  (0, 36, []),
  (2, 7, [(0, 0), (0, 0), (2, 52)]),
  (0, 36, []),
  (2, 7, [(0, 0), (0, 0), (2, 54)]),
  (0, 36, []),
  (2, 7, [(0, 0), (0, 0), (2, 56)]),
  (0, 36, []),
  (2, 7, [(0, 0), (0, 0), (2, 58)]),
  (0, 36, []),
  (2, 7, [(0, 0), (0, 0), (2, 60)]),
  (0, 36, []),
  (2, 7, [(0, 0), (0, 0), (2, 62)]),
  (0, 36, []),
  (2, 7, [(0, 0), (0, 0), (2, 64)]),
  (0, 36, []),
  (2, 7, [(0, 0), (0, 0), (2, 66)]),
  (0, 36, []),
  (2, 7, [(0, 0), (0, 0), (2, 68)]),
  (0, 36, []),
  (2, 7, [(0, 0), (0, 0), (2, 70)]),
  (0, 36, []),
  (2, 7, [(0, 0), (0, 0), (2, 72)]),
  (0, 36, []),
  (2, 7, [(0, 0), (0, 0), (2, 74)]),
  (0, 36, []),
  (2, 7, [(0, 0), (0, 0), (2, 76)]),
  (0, 36, []),
  (2, 7, [(0, 0), (0, 0), (2, 78)]),
  (0, 36, []),
  (2, 7, [(0, 0), (0, 0), (2, 80)]),
  (0, 36, []),
  (2, 7, [(0, 0), (0, 0), (2, 82)]),
  (0, 36, []),
  (2, 7, [(0, 0), (0, 0), (2, 84)]),
  (0, 36, []),
  (2, 7, [(0, 0), (0, 0), (2, 86)]),
  (0, 36, []),
  (2, 7, [(0, 0), (0, 0), (2, 88)]),
  (0, 36, []),
  (2, 7, [(0, 0), (0, 0), (2, 90)]),
  (0, 36, []),
  (2, 7, [(0, 0), (0, 0), (2, 92)]),
  (0, 36, []),
  (2, 7, [(0, 0), (0, 0), (2, 94)]),
  (0, 36, []),
  (2, 7, [(0, 0), (0, 0), (2, 96)]),
  (0, 36, []),
  (2, 7, [(0, 0), (0, 0), (2, 98)]),
  (0, 36, []),
  (2, 7, [(0, 0), (0, 0), (2, 100)]),
  (0, 36, []),
  (2, 7, [(0, 0), (0, 0), (2, 102)]),
  (0, 36, []),
  (2, 7, [(0, 0), (0, 0), (2, 104)]),
  (0, 36, []),
  (2, 7, [(0, 0), (0, 0), (2, 106)]),
  (0, 36, []),
  (3, 4, [(2, 143), (2, 145), (2, 147), (2, 149)]),
  (4, 5, [(2, 151), (2, 156), (2, 161), (2, 166), (2, 171)]),
  (2, 7, [(0, 0), (0, 0), (2, 110)]),
  (0, 36, []),
  (0, 4, []),
  (2, 1, [(2, 113), (0, 0), (0, 0), (0, 0), (0, 0), (0, 0)]),
  (0, 4096, []),
  (2, 9, [(2, 115), (2, 117), (2, 118), (0, 0), (0, 0)]),
  (2, 7, [(0, 0), (0, 0), (2, 116)]),
  (0, 36, []),
  (0, 6, []),
  (0, 6, []),
  (2, 9, [(2, 120), (2, 122), (2, 123), (0, 0), (0, 0)]),
  (2, 7, [(0, 0), (0, 0), (2, 121)]),
  (0, 36, []),
  (0, 6, []),
  (0, 6, []),
  (2, 6, [(2, 125), (2, 127), (2, 128), (2, 129), (2, 130), (0, 0), (0, 0), (0, 0)]),
  (2, 7, [(0, 0), (0, 0), (2, 126)]),
  (0, 36, []),
  (0, 6, []),
  (0, 6, []),
  (0, 6, []),
  (0, 6, []),
  (2, 5, [(0, 0), (0, 0), (2, 132), (2, 133), (0, 0), (2, 134), (2, 135)]),
  (0, 6, []),
  (0, 6, []),
  (0, 12, []),
  (0, 12, []),
  (2, 3, [(2, 137), (2, 139), (2, 141)]),
  (2, 7, [(0, 0), (0, 0), (2, 138)]),
  (0, 36, []),
  (2, 7, [(0, 0), (0, 0), (2, 140)]),
  (0, 36, []),
  (0, 5, []),
  (2, 0, [(1, 0)]),
  (2, 7, [(0, 0), (0, 0), (2, 144)]),
  (0, 36, []),
  (2, 7, [(0, 0), (0, 0), (2, 146)]),
  (0, 36, []),
  (2, 7, [(0, 0), (0, 0), (2, 148)]),
  (0, 36, []),
  (2, 7, [(0, 0), (0, 0), (2, 150)]),
  (0, 36, []),
  (2, 4, [(0, 0), (2, 152), (2, 153), (2, 154), (2, 155)]),
  (0, 12, []),
  (0, 12, []),
  (0, 12, []),
  (0, 12, []),
  (2, 4, [(0, 0), (2, 157), (2, 158), (2, 159), (2, 160)]),
  (0, 12, []),
  (0, 12, []),
  (0, 12, []),
  (0, 12, []),
  (2, 4, [(0, 0), (2, 162), (2, 163), (2, 164), (2, 165)]),
  (0, 12, []),
  (0, 12, []),
  (0, 12, []),
  (0, 12, []),
  (2, 4, [(0, 0), (2, 167), (2, 168), (2, 169), (2, 170)]),
  (0, 12, []),
  (0, 12, []),
  (0, 12, []),
  (0, 12, []),
  (2, 4, [(0, 0), (2, 172), (2, 173), (2, 174), (2, 175)]),
  (0, 12, []),
  (0, 12, []),
  (0, 12, []),
  (0, 12, []),
  (2, 11, [(0, 0), (2, 177), (0, 0), (0, 0), (0, 0), (2, 178), (2, 179), (2, 180), (2, 181), (2, 182), (2, 183), (2, 184), (0, 0), (0, 0), (2, 185), (0, 0), (2, 186), (2, 187), (2, 188), (2, 189), (2, 190), (0, 0), (2, 191), (2, 192), (2, 193), (2, 194), (2, 195), (2, 196), (2, 197), (2, 198), (2, 199), (1, 0), (2, 200), (0, 0), (0, 0)]),
  (1, 240, []),
  (0, 38, []),
  (0, 38, []),
  (0, 38, []),
  (0, 152, []),
  (0, 240, []),
  (0, 5, []),
  (0, 4, []),
  (0, 1520, []),
  (0, 4096, []),
  (0, 12, []),
  (0, 12, []),
  (0, 38, []),
  (0, 6, []),
  (0, 12, []),
  (0, 12, []),
  (0, 38, []),
  (0, 12, []),
  (0, 38, []),
  (0, 38, []),
  (0, 6, []),
  (0, 6, []),
  (0, 38, []),
  (0, 38, []),
  (5, 1, [])]
abbrev LEND : Nat := 202
abbrev i_U : Nat := 16
abbrev i_tape : Nat := 17
abbrev i_tape_b : Nat := 18
abbrev i_table : Nat := 19
abbrev i_table_c : Nat := 20
abbrev i_before : Nat := 21
abbrev i_before_c : Nat := 22
abbrev i_draft : Nat := 23
abbrev i_draft_c : Nat := 24
abbrev i_past : Nat := 25
abbrev i_past_a : Nat := 26
abbrev i_past0 : Nat := 27
abbrev i_past0_c : Nat := 28
abbrev i_past1 : Nat := 29
abbrev i_past1_c : Nat := 30
abbrev i_past2 : Nat := 31
abbrev i_past2_c : Nat := 32
abbrev i_past3 : Nat := 33
abbrev i_past3_c : Nat := 34
abbrev i_past4 : Nat := 35
abbrev i_past4_c : Nat := 36
abbrev i_past5 : Nat := 37
abbrev i_past5_c : Nat := 38
abbrev i_past6 : Nat := 39
abbrev i_past6_c : Nat := 40
abbrev i_past7 : Nat := 41
abbrev i_past7_c : Nat := 42
abbrev i_past8 : Nat := 43
abbrev i_past8_c : Nat := 44
abbrev i_past9 : Nat := 45
abbrev i_past9_c : Nat := 46
abbrev i_past10 : Nat := 47
abbrev i_past10_c : Nat := 48
abbrev i_past11 : Nat := 49
abbrev i_past11_c : Nat := 50
abbrev i_past12 : Nat := 51
abbrev i_past12_c : Nat := 52
abbrev i_past13 : Nat := 53
abbrev i_past13_c : Nat := 54
abbrev i_past14 : Nat := 55
abbrev i_past14_c : Nat := 56
abbrev i_past15 : Nat := 57
abbrev i_past15_c : Nat := 58
abbrev i_past16 : Nat := 59
abbrev i_past16_c : Nat := 60
abbrev i_past17 : Nat := 61
abbrev i_past17_c : Nat := 62
abbrev i_past18 : Nat := 63
abbrev i_past18_c : Nat := 64
abbrev i_past19 : Nat := 65
abbrev i_past19_c : Nat := 66
abbrev i_past20 : Nat := 67
abbrev i_past20_c : Nat := 68
abbrev i_past21 : Nat := 69
abbrev i_past21_c : Nat := 70
abbrev i_past22 : Nat := 71
abbrev i_past22_c : Nat := 72
abbrev i_past23 : Nat := 73
abbrev i_past23_c : Nat := 74
abbrev i_past24 : Nat := 75
abbrev i_past24_c : Nat := 76
abbrev i_past25 : Nat := 77
abbrev i_past25_c : Nat := 78
abbrev i_past26 : Nat := 79
abbrev i_past26_c : Nat := 80
abbrev i_past27 : Nat := 81
abbrev i_past27_c : Nat := 82
abbrev i_past28 : Nat := 83
abbrev i_past28_c : Nat := 84
abbrev i_past29 : Nat := 85
abbrev i_past29_c : Nat := 86
abbrev i_past30 : Nat := 87
abbrev i_past30_c : Nat := 88
abbrev i_past31 : Nat := 89
abbrev i_past31_c : Nat := 90
abbrev i_past32 : Nat := 91
abbrev i_past32_c : Nat := 92
abbrev i_past33 : Nat := 93
abbrev i_past33_c : Nat := 94
abbrev i_past34 : Nat := 95
abbrev i_past34_c : Nat := 96
abbrev i_past35 : Nat := 97
abbrev i_past35_c : Nat := 98
abbrev i_past36 : Nat := 99
abbrev i_past36_c : Nat := 100
abbrev i_past37 : Nat := 101
abbrev i_past37_c : Nat := 102
abbrev i_past38 : Nat := 103
abbrev i_past38_c : Nat := 104
abbrev i_past39 : Nat := 105
abbrev i_past39_c : Nat := 106
abbrev i_kept_a : Nat := 107
abbrev i_scr_a : Nat := 108
abbrev i_pictured : Nat := 109
abbrev i_pictured_c : Nat := 110
abbrev i_refu : Nat := 111
abbrev i_minors : Nat := 112
abbrev i_cdets : Nat := 113
abbrev i_tree : Nat := 114
abbrev i_tree_plan : Nat := 115
abbrev i_tree_plan_c : Nat := 116
abbrev i_tree_t : Nat := 117
abbrev i_tree_h : Nat := 118
abbrev i_cotree : Nat := 119
abbrev i_cotree_plan : Nat := 120
abbrev i_cotree_plan_c : Nat := 121
abbrev i_cotree_t : Nat := 122
abbrev i_cotree_h : Nat := 123
abbrev i_signing : Nat := 124
abbrev i_signs : Nat := 125
abbrev i_signs_c : Nat := 126
abbrev i_rowParts : Nat := 127
abbrev i_columnParts : Nat := 128
abbrev i_rowsFar : Nat := 129
abbrev i_columnsFar : Nat := 130
abbrev i_shape : Nat := 131
abbrev i_across : Nat := 132
abbrev i_down : Nat := 133
abbrev i_partRows : Nat := 134
abbrev i_partColumns : Nat := 135
abbrev i_pattern : Nat := 136
abbrev i_special : Nat := 137
abbrev i_special_c : Nat := 138
abbrev i_moved : Nat := 139
abbrev i_moved_c : Nat := 140
abbrev i_order : Nat := 141
abbrev i_dice : Nat := 142
abbrev i_kept0 : Nat := 143
abbrev i_kept0_c : Nat := 144
abbrev i_kept1 : Nat := 145
abbrev i_kept1_c : Nat := 146
abbrev i_kept2 : Nat := 147
abbrev i_kept2_c : Nat := 148
abbrev i_kept3 : Nat := 149
abbrev i_kept3_c : Nat := 150
abbrev i_scr0 : Nat := 151
abbrev i_scr0_k : Nat := 152
abbrev i_scr0_f : Nat := 153
abbrev i_scr0_s : Nat := 154
abbrev i_scr0_v : Nat := 155
abbrev i_scr1 : Nat := 156
abbrev i_scr1_k : Nat := 157
abbrev i_scr1_f : Nat := 158
abbrev i_scr1_s : Nat := 159
abbrev i_scr1_v : Nat := 160
abbrev i_scr2 : Nat := 161
abbrev i_scr2_k : Nat := 162
abbrev i_scr2_f : Nat := 163
abbrev i_scr2_s : Nat := 164
abbrev i_scr2_v : Nat := 165
abbrev i_scr3 : Nat := 166
abbrev i_scr3_k : Nat := 167
abbrev i_scr3_f : Nat := 168
abbrev i_scr3_s : Nat := 169
abbrev i_scr3_v : Nat := 170
abbrev i_scr4 : Nat := 171
abbrev i_scr4_k : Nat := 172
abbrev i_scr4_f : Nat := 173
abbrev i_scr4_s : Nat := 174
abbrev i_scr4_v : Nat := 175
abbrev i_M : Nat := 176
abbrev i_m_tape : Nat := 177
abbrev i_m_now : Nat := 178
abbrev i_m_read : Nat := 179
abbrev i_m_trial : Nat := 180
abbrev i_m_kept : Nat := 181
abbrev i_m_plan : Nat := 182
abbrev i_m_planLong : Nat := 183
abbrev i_m_status : Nat := 184
abbrev i_m_undoRow : Nat := 185
abbrev i_m_dets : Nat := 186
abbrev i_m_from : Nat := 187
abbrev i_m_to : Nat := 188
abbrev i_m_treeRow : Nat := 189
abbrev i_m_walk : Nat := 190
abbrev i_m_part : Nat := 191
abbrev i_m_steps : Nat := 192
abbrev i_m_sign : Nat := 193
abbrev i_m_factor : Nat := 194
abbrev i_m_goal : Nat := 195
abbrev i_m_laid : Nat := 196
abbrev i_m_rowsLaid : Nat := 197
abbrev i_m_columnsLaid : Nat := 198
abbrev i_m_apart : Nat := 199
abbrev i_m_imageRow : Nat := 200
abbrev i_out : Nat := 201
def wdc (σ : sg) (i : Nat) : Option aE := if i < 16 then none else (LAY[i - 16]?).map (cellF σ i)
/-- the world: the cells of LAY, and what was made later -/
def wd (σ : sg) (x : aW) : aW := (x.1, fun i => if i < LEND then wdc σ i else x.2 i)
def LY (i : Nat) (d : ld) : Prop := 16 ≤ i ∧ i < LEND ∧ LAY[i - 16]? = some d
theorem wd_at {σ : sg} {x : aW} {i : Nat} {d : ld} (h : LY i d) : (wd σ x).2 i = some (cellF σ i d) := by
  obtain ⟨h1, h2, h3⟩ := h
  show (if i < LEND then wdc σ i else x.2 i) = _
  rw [if_pos h2]
  unfold wdc
  rw [if_neg (by omega), h3]
  rfl
def sG (σ : sg) (i k : Nat) (v : Int32) : sg := (fun a b => if a = i then (if b = k then v else σ.1 a b) else σ.1 a b, σ.2.1, σ.2.2)
def sL (σ : sg) (i : Nat) (v : Int64) : sg := (σ.1, fun a => if a = i then v else σ.2.1 a, σ.2.2)
def sA (σ : sg) (i : Nat) (f : Nat → Int32) : sg := (σ.1, σ.2.1, fun a => if a = i then f else σ.2.2 a)
theorem fv_get_i {g : Nat → Int32} {x : Int64} : ∀ (fl : List (Nat × Nat)) (j k z : Nat), fl[k]? = some (0, z) → (fv g x j fl)[k]? = some (.int (g (j + k)))
  | [], j, k, z, h => by simp at h
  | (0, a) :: t, j, 0, z, h => by simp [fv]
  | (0, a) :: t, j, k + 1, z, h => by
    simp only [fv, List.getElem?_cons_succ]
    rw [fv_get_i t (j + 1) k z (by simpa using h), show j + 1 + k = j + (k + 1) by omega]
  | (1, a) :: t, j, 0, z, h => by simp at h
  | (1, a) :: t, j, k + 1, z, h => by
    simp only [fv, List.getElem?_cons_succ]
    rw [fv_get_i t (j + 1) k z (by simpa using h), show j + 1 + k = j + (k + 1) by omega]
  | (_ + 2, a) :: t, j, 0, z, h => by simp at h
  | (_ + 2, a) :: t, j, k + 1, z, h => by
    simp only [fv, List.getElem?_cons_succ]
    rw [fv_get_i t (j + 1) k z (by simpa using h), show j + 1 + k = j + (k + 1) by omega]
theorem fv_get_l {g : Nat → Int32} {x : Int64} : ∀ (fl : List (Nat × Nat)) (j k z : Nat), fl[k]? = some (1, z) → (fv g x j fl)[k]? = some (.long x)
  | [], j, k, z, h => by simp at h
  | (0, a) :: t, j, 0, z, h => by simp at h
  | (0, a) :: t, j, k + 1, z, h => by
    simp only [fv, List.getElem?_cons_succ]
    exact fv_get_l t (j + 1) k z (by simpa using h)
  | (1, a) :: t, j, 0, z, h => by simp [fv]
  | (1, a) :: t, j, k + 1, z, h => by
    simp only [fv, List.getElem?_cons_succ]
    exact fv_get_l t (j + 1) k z (by simpa using h)
  | (_ + 2, a) :: t, j, 0, z, h => by simp at h
  | (_ + 2, a) :: t, j, k + 1, z, h => by
    simp only [fv, List.getElem?_cons_succ]
    exact fv_get_l t (j + 1) k z (by simpa using h)
theorem fv_get_r {g : Nat → Int32} {x : Int64} : ∀ (fl : List (Nat × Nat)) (j k z : Nat), fl[k]? = some (2, z) → (fv g x j fl)[k]? = some (.ref z)
  | [], j, k, z, h => by simp at h
  | (0, a) :: t, j, 0, z, h => by simp at h
  | (0, a) :: t, j, k + 1, z, h => by
    simp only [fv, List.getElem?_cons_succ]
    exact fv_get_r t (j + 1) k z (by simpa using h)
  | (1, a) :: t, j, 0, z, h => by simp at h
  | (1, a) :: t, j, k + 1, z, h => by
    simp only [fv, List.getElem?_cons_succ]
    exact fv_get_r t (j + 1) k z (by simpa using h)
  | (y + 2, a) :: t, j, 0, z, h => by simp [fv] at h ⊢; exact h.2
  | (_ + 2, a) :: t, j, k + 1, z, h => by
    simp only [fv, List.getElem?_cons_succ]
    exact fv_get_r t (j + 1) k z (by simpa using h)
theorem fv_len {g : Nat → Int32} {x : Int64} : ∀ (fl : List (Nat × Nat)) (j : Nat), (fv g x j fl).length = fl.length
  | [], j => rfl
  | (0, a) :: t, j => by simp [fv, fv_len t]
  | (1, a) :: t, j => by simp [fv, fv_len t]
  | (_ + 2, a) :: t, j => by simp [fv, fv_len t]
theorem fv_congr {g h : Nat → Int32} {x : Int64} : ∀ (fl : List (Nat × Nat)) (j : Nat), (∀ k, j ≤ k → g k = h k) → fv g x j fl = fv h x j fl
  | [], j, _ => rfl
  | (0, a) :: t, j, e => by rw [fv, fv, e j (Nat.le_refl _), fv_congr t (j + 1) (fun k hk => e k (by omega))]
  | (1, a) :: t, j, e => by rw [fv, fv, fv_congr t (j + 1) (fun k hk => e k (by omega))]
  | (_ + 2, a) :: t, j, e => by rw [fv, fv, fv_congr t (j + 1) (fun k hk => e k (by omega))]
theorem fv_set_i {g : Nat → Int32} {x : Int64} {v : Int32} : ∀ (fl : List (Nat × Nat)) (j k z : Nat), fl[k]? = some (0, z) → (fv g x j fl).set k (.int v) = fv (fun b => if b = j + k then v else g b) x j fl
  | [], j, k, z, h => by simp at h
  | (0, a) :: t, j, 0, z, h => by
    simp only [fv, List.set_cons_zero, Nat.add_zero, if_true]
    rw [fv_congr (g := g) (h := fun b => if b = j then v else g b) t (j + 1) (fun k hk => by rw [if_neg (by omega)])]
  | (0, a) :: t, j, k + 1, z, h => by
    simp only [fv, List.set_cons_succ]
    rw [fv_set_i t (j + 1) k z (by simpa using h), if_neg (by omega), show j + 1 + k = j + (k + 1) by omega]
  | (1, a) :: t, j, 0, z, h => by simp at h
  | (1, a) :: t, j, k + 1, z, h => by
    simp only [fv, List.set_cons_succ]
    rw [fv_set_i t (j + 1) k z (by simpa using h), show j + 1 + k = j + (k + 1) by omega]
  | (_ + 2, a) :: t, j, 0, z, h => by simp at h
  | (_ + 2, a) :: t, j, k + 1, z, h => by
    simp only [fv, List.set_cons_succ]
    rw [fv_set_i t (j + 1) k z (by simpa using h), show j + 1 + k = j + (k + 1) by omega]
theorem wd_ext {σ τ : sg} {x : aW} {i : Nat} {c : aE} {d : ld} (h : LY i d) (hc : c = cellF τ i d) (ho : ∀ j e, j ≠ i → cellF τ j e = cellF σ j e) : ((wd σ x).1, va_up (wd σ x).2 i (some c)) = wd τ x := by
  refine Prod.ext rfl (funext fun j => ?_)
  show va_up (wd σ x).2 i (some c) j = (wd τ x).2 j
  by_cases hj : j = i
  · subst hj
    rw [va_up_eq, wd_at h, hc]
  · simp only [va_up, if_neg hj]
    show (if j < LEND then wdc σ j else x.2 j) = (if j < LEND then wdc τ j else x.2 j)
    split
    · unfold wdc
      split
      · rfl
      · cases LAY[j - 16]? with
        | none => rfl
        | some e => simp [ho j e hj]
    · rfl
theorem wd_putI {σ : sg} {x : aW} {i k c z : Nat} {fl : List (Nat × Nat)} {v : Int32} (h : LY i (2, c, fl)) (hk : fl[k]? = some (0, z)) : ((wd σ x).1, va_up (wd σ x).2 i (some (.inr (c, (fv (σ.1 i) (σ.2.1 i) 0 fl).set k (.int v))))) = wd (sG σ i k v) x := by
  refine wd_ext h ?_ (fun j e hj => ?_)
  · show _ = Sum.inr (c, fv _ _ 0 fl)
    rw [fv_set_i fl 0 k z hk]
    congr 2
    refine fv_congr fl 0 (fun b _ => ?_)
    simp [sG]
  · have e1 : (fun b => if j = i then (if b = k then v else σ.1 j b) else σ.1 j b) = σ.1 j := by
      funext b; rw [if_neg hj]
    unfold cellF
    split <;> first | rfl | (show Sum.inr (_, fv (fun b => if j = i then (if b = k then v else σ.1 j b) else σ.1 j b) _ 0 _) = _; rw [e1]; rfl)
theorem fv_set_l {g : Nat → Int32} {x v : Int64} : ∀ (fl : List (Nat × Nat)) (j k z : Nat), fl[k]? = some (1, z) → (∀ k2 z2, fl[k2]? = some (1, z2) → k2 = k) → (fv g x j fl).set k (.long v) = fv g v j fl
  | [], j, k, z, h, u => by simp at h
  | (0, a) :: t, j, 0, z, h, u => by simp at h
  | (0, a) :: t, j, k + 1, z, h, u => by
    simp only [fv, List.set_cons_succ]
    rw [fv_set_l t (j + 1) k z (by simpa using h) (fun k2 z2 h2 => by have := u (k2 + 1) z2 (by simpa using h2); omega)]
  | (1, a) :: t, j, 0, z, h, u => by
    simp only [fv, List.set_cons_zero]
    congr 1
    have nt : ∀ (t : List (Nat × Nat)) (j : Nat), (∀ k z : Nat, t[k]? ≠ some ((1 : Nat), z)) → fv g x j t = fv g v j t := by
      intro t
      induction t with
      | nil => intro j _; rfl
      | cons q t ih =>
        intro j hn
        have ih2 := fun j => ih j (fun k z hk => hn (k + 1) z (by simpa using hk))
        obtain ⟨y, a⟩ := q
        match y with
        | 0 => simp only [fv]; rw [ih2]
        | 1 => exact absurd rfl (hn 0 a)
        | y + 2 => simp only [fv]; rw [ih2]
    exact nt t (j + 1) (fun k z hk => by have := u (k + 1) z (by simpa using hk); omega)
  | (1, a) :: t, j, k + 1, z, h, u => by have := u 0 a rfl; omega
  | (_ + 2, a) :: t, j, 0, z, h, u => by simp at h
  | (_ + 2, a) :: t, j, k + 1, z, h, u => by
    simp only [fv, List.set_cons_succ]
    rw [fv_set_l t (j + 1) k z (by simpa using h) (fun k2 z2 h2 => by have := u (k2 + 1) z2 (by simpa using h2); omega)]
theorem wd_putL {σ : sg} {x : aW} {i k c z : Nat} {fl : List (Nat × Nat)} {v : Int64} (h : LY i (2, c, fl)) (hk : fl[k]? = some (1, z)) (hu : ∀ k2 z2, fl[k2]? = some (1, z2) → k2 = k) : ((wd σ x).1, va_up (wd σ x).2 i (some (.inr (c, (fv (σ.1 i) (σ.2.1 i) 0 fl).set k (.long v))))) = wd (sL σ i v) x := by
  refine wd_ext h ?_ (fun j e hj => ?_)
  · show _ = Sum.inr (c, fv _ _ 0 fl)
    rw [fv_set_l fl 0 k z hk hu]
    simp [sL]
  · have e1 : (if j = i then v else σ.2.1 j) = σ.2.1 j := if_neg hj
    unfold cellF
    split <;> first | rfl | (show Sum.inr (_, fv _ (if j = i then v else σ.2.1 j) 0 _) = _; rw [e1]; rfl) | (show Sum.inl (_, _, Sum.inr (Sum.inl (fun _ => (if j = i then v else σ.2.1 j)))) = _; rw [e1])
theorem wd_putA {σ : sg} {x : aW} {i n : Nat} {fl : List (Nat × Nat)} {f : Nat → Int32} (h : LY i (0, n, fl)) : ((wd σ x).1, va_up (wd σ x).2 i (some (.inl (0, n, .inl f)))) = wd (sA σ i f) x := by
  refine wd_ext h ?_ (fun j e hj => ?_)
  · show _ = Sum.inl (0, n, Sum.inl _)
    simp [sA]
  · have e1 : (if j = i then f else σ.2.2 j) = σ.2.2 j := if_neg hj
    unfold cellF
    split <;> first | rfl | (show Sum.inl (_, _, Sum.inl (if j = i then f else σ.2.2 j)) = _; rw [e1])
theorem wd_putB {σ : sg} {x : aW} {i n : Nat} {fl : List (Nat × Nat)} {f : Nat → Int32} (h : LY i (1, n, fl)) : ((wd σ x).1, va_up (wd σ x).2 i (some (.inl (1, n, .inl f)))) = wd (sA σ i f) x := by
  refine wd_ext h ?_ (fun j e hj => ?_)
  · show _ = Sum.inl (1, n, Sum.inl _)
    simp [sA]
  · have e1 : (if j = i then f else σ.2.2 j) = σ.2.2 j := if_neg hj
    unfold cellF
    split <;> first | rfl | (show Sum.inl (_, _, Sum.inl (if j = i then f else σ.2.2 j)) = _; rw [e1])

theorem L_U : LY i_U (2, 10, [(2, 17), (2, 19), (2, 21), (2, 23), (2, 25), (2, 107), (0, 0), (2, 108), (0, 0), (2, 109), (0, 0), (2, 111), (2, 112), (2, 114), (2, 119), (2, 124), (2, 131), (2, 136), (2, 142)]) := ⟨by decide, by decide, rfl⟩
theorem L_tape : LY i_tape (2, 8, [(2, 18), (0, 0)]) := ⟨by decide, by decide, rfl⟩
theorem L_tape_b : LY i_tape_b (0, 240, []) := ⟨by decide, by decide, rfl⟩
theorem L_table : LY i_table (2, 7, [(0, 0), (0, 0), (2, 20)]) := ⟨by decide, by decide, rfl⟩
theorem L_table_c : LY i_table_c (0, 36, []) := ⟨by decide, by decide, rfl⟩
theorem L_before : LY i_before (2, 7, [(0, 0), (0, 0), (2, 22)]) := ⟨by decide, by decide, rfl⟩
theorem L_before_c : LY i_before_c (0, 36, []) := ⟨by decide, by decide, rfl⟩
theorem L_draft : LY i_draft (2, 7, [(0, 0), (0, 0), (2, 24)]) := ⟨by decide, by decide, rfl⟩
theorem L_draft_c : LY i_draft_c (0, 36, []) := ⟨by decide, by decide, rfl⟩
theorem L_past : LY i_past (2, 2, [(2, 26), (0, 0), (0, 0)]) := ⟨by decide, by decide, rfl⟩
theorem L_past_a : LY i_past_a (3, 40, [(2, 27), (2, 29), (2, 31), (2, 33), (2, 35), (2, 37), (2, 39), (2, 41), (2, 43), (2, 45), (2, 47), (2, 49), (2, 51), (2, 53), (2, 55), (2, 57), (2, 59), (2, 61), (2, 63), (2, 65), (2, 67), (2, 69), (2, 71), (2, 73), (2, 75), (2, 77), (2, 79), (2, 81), (2, 83), (2, 85), (2, 87), (2, 89), (2, 91), (2, 93), (2, 95), (2, 97), (2, 99), (2, 101), (2, 103), (2, 105)]) := ⟨by decide, by decide, rfl⟩
theorem L_past0 : LY i_past0 (2, 7, [(0, 0), (0, 0), (2, 28)]) := ⟨by decide, by decide, rfl⟩
theorem L_past0_c : LY i_past0_c (0, 36, []) := ⟨by decide, by decide, rfl⟩
theorem L_past1 : LY i_past1 (2, 7, [(0, 0), (0, 0), (2, 30)]) := ⟨by decide, by decide, rfl⟩
theorem L_past1_c : LY i_past1_c (0, 36, []) := ⟨by decide, by decide, rfl⟩
theorem L_past2 : LY i_past2 (2, 7, [(0, 0), (0, 0), (2, 32)]) := ⟨by decide, by decide, rfl⟩
theorem L_past2_c : LY i_past2_c (0, 36, []) := ⟨by decide, by decide, rfl⟩
theorem L_past3 : LY i_past3 (2, 7, [(0, 0), (0, 0), (2, 34)]) := ⟨by decide, by decide, rfl⟩
theorem L_past3_c : LY i_past3_c (0, 36, []) := ⟨by decide, by decide, rfl⟩
theorem L_past4 : LY i_past4 (2, 7, [(0, 0), (0, 0), (2, 36)]) := ⟨by decide, by decide, rfl⟩
theorem L_past4_c : LY i_past4_c (0, 36, []) := ⟨by decide, by decide, rfl⟩
theorem L_past5 : LY i_past5 (2, 7, [(0, 0), (0, 0), (2, 38)]) := ⟨by decide, by decide, rfl⟩
theorem L_past5_c : LY i_past5_c (0, 36, []) := ⟨by decide, by decide, rfl⟩
theorem L_past6 : LY i_past6 (2, 7, [(0, 0), (0, 0), (2, 40)]) := ⟨by decide, by decide, rfl⟩
theorem L_past6_c : LY i_past6_c (0, 36, []) := ⟨by decide, by decide, rfl⟩
theorem L_past7 : LY i_past7 (2, 7, [(0, 0), (0, 0), (2, 42)]) := ⟨by decide, by decide, rfl⟩
theorem L_past7_c : LY i_past7_c (0, 36, []) := ⟨by decide, by decide, rfl⟩
theorem L_past8 : LY i_past8 (2, 7, [(0, 0), (0, 0), (2, 44)]) := ⟨by decide, by decide, rfl⟩
theorem L_past8_c : LY i_past8_c (0, 36, []) := ⟨by decide, by decide, rfl⟩
theorem L_past9 : LY i_past9 (2, 7, [(0, 0), (0, 0), (2, 46)]) := ⟨by decide, by decide, rfl⟩
theorem L_past9_c : LY i_past9_c (0, 36, []) := ⟨by decide, by decide, rfl⟩
theorem L_past10 : LY i_past10 (2, 7, [(0, 0), (0, 0), (2, 48)]) := ⟨by decide, by decide, rfl⟩
theorem L_past10_c : LY i_past10_c (0, 36, []) := ⟨by decide, by decide, rfl⟩
theorem L_past11 : LY i_past11 (2, 7, [(0, 0), (0, 0), (2, 50)]) := ⟨by decide, by decide, rfl⟩
theorem L_past11_c : LY i_past11_c (0, 36, []) := ⟨by decide, by decide, rfl⟩
theorem L_past12 : LY i_past12 (2, 7, [(0, 0), (0, 0), (2, 52)]) := ⟨by decide, by decide, rfl⟩
theorem L_past12_c : LY i_past12_c (0, 36, []) := ⟨by decide, by decide, rfl⟩
theorem L_past13 : LY i_past13 (2, 7, [(0, 0), (0, 0), (2, 54)]) := ⟨by decide, by decide, rfl⟩
theorem L_past13_c : LY i_past13_c (0, 36, []) := ⟨by decide, by decide, rfl⟩
theorem L_past14 : LY i_past14 (2, 7, [(0, 0), (0, 0), (2, 56)]) := ⟨by decide, by decide, rfl⟩
theorem L_past14_c : LY i_past14_c (0, 36, []) := ⟨by decide, by decide, rfl⟩
theorem L_past15 : LY i_past15 (2, 7, [(0, 0), (0, 0), (2, 58)]) := ⟨by decide, by decide, rfl⟩
theorem L_past15_c : LY i_past15_c (0, 36, []) := ⟨by decide, by decide, rfl⟩
theorem L_past16 : LY i_past16 (2, 7, [(0, 0), (0, 0), (2, 60)]) := ⟨by decide, by decide, rfl⟩
theorem L_past16_c : LY i_past16_c (0, 36, []) := ⟨by decide, by decide, rfl⟩
theorem L_past17 : LY i_past17 (2, 7, [(0, 0), (0, 0), (2, 62)]) := ⟨by decide, by decide, rfl⟩
theorem L_past17_c : LY i_past17_c (0, 36, []) := ⟨by decide, by decide, rfl⟩
theorem L_past18 : LY i_past18 (2, 7, [(0, 0), (0, 0), (2, 64)]) := ⟨by decide, by decide, rfl⟩
theorem L_past18_c : LY i_past18_c (0, 36, []) := ⟨by decide, by decide, rfl⟩
theorem L_past19 : LY i_past19 (2, 7, [(0, 0), (0, 0), (2, 66)]) := ⟨by decide, by decide, rfl⟩
theorem L_past19_c : LY i_past19_c (0, 36, []) := ⟨by decide, by decide, rfl⟩
theorem L_past20 : LY i_past20 (2, 7, [(0, 0), (0, 0), (2, 68)]) := ⟨by decide, by decide, rfl⟩
theorem L_past20_c : LY i_past20_c (0, 36, []) := ⟨by decide, by decide, rfl⟩
theorem L_past21 : LY i_past21 (2, 7, [(0, 0), (0, 0), (2, 70)]) := ⟨by decide, by decide, rfl⟩
theorem L_past21_c : LY i_past21_c (0, 36, []) := ⟨by decide, by decide, rfl⟩
theorem L_past22 : LY i_past22 (2, 7, [(0, 0), (0, 0), (2, 72)]) := ⟨by decide, by decide, rfl⟩
theorem L_past22_c : LY i_past22_c (0, 36, []) := ⟨by decide, by decide, rfl⟩
theorem L_past23 : LY i_past23 (2, 7, [(0, 0), (0, 0), (2, 74)]) := ⟨by decide, by decide, rfl⟩
theorem L_past23_c : LY i_past23_c (0, 36, []) := ⟨by decide, by decide, rfl⟩
theorem L_past24 : LY i_past24 (2, 7, [(0, 0), (0, 0), (2, 76)]) := ⟨by decide, by decide, rfl⟩
theorem L_past24_c : LY i_past24_c (0, 36, []) := ⟨by decide, by decide, rfl⟩
theorem L_past25 : LY i_past25 (2, 7, [(0, 0), (0, 0), (2, 78)]) := ⟨by decide, by decide, rfl⟩
theorem L_past25_c : LY i_past25_c (0, 36, []) := ⟨by decide, by decide, rfl⟩
theorem L_past26 : LY i_past26 (2, 7, [(0, 0), (0, 0), (2, 80)]) := ⟨by decide, by decide, rfl⟩
theorem L_past26_c : LY i_past26_c (0, 36, []) := ⟨by decide, by decide, rfl⟩
theorem L_past27 : LY i_past27 (2, 7, [(0, 0), (0, 0), (2, 82)]) := ⟨by decide, by decide, rfl⟩
theorem L_past27_c : LY i_past27_c (0, 36, []) := ⟨by decide, by decide, rfl⟩
theorem L_past28 : LY i_past28 (2, 7, [(0, 0), (0, 0), (2, 84)]) := ⟨by decide, by decide, rfl⟩
theorem L_past28_c : LY i_past28_c (0, 36, []) := ⟨by decide, by decide, rfl⟩
theorem L_past29 : LY i_past29 (2, 7, [(0, 0), (0, 0), (2, 86)]) := ⟨by decide, by decide, rfl⟩
theorem L_past29_c : LY i_past29_c (0, 36, []) := ⟨by decide, by decide, rfl⟩
theorem L_past30 : LY i_past30 (2, 7, [(0, 0), (0, 0), (2, 88)]) := ⟨by decide, by decide, rfl⟩
theorem L_past30_c : LY i_past30_c (0, 36, []) := ⟨by decide, by decide, rfl⟩
theorem L_past31 : LY i_past31 (2, 7, [(0, 0), (0, 0), (2, 90)]) := ⟨by decide, by decide, rfl⟩
theorem L_past31_c : LY i_past31_c (0, 36, []) := ⟨by decide, by decide, rfl⟩
theorem L_past32 : LY i_past32 (2, 7, [(0, 0), (0, 0), (2, 92)]) := ⟨by decide, by decide, rfl⟩
theorem L_past32_c : LY i_past32_c (0, 36, []) := ⟨by decide, by decide, rfl⟩
theorem L_past33 : LY i_past33 (2, 7, [(0, 0), (0, 0), (2, 94)]) := ⟨by decide, by decide, rfl⟩
theorem L_past33_c : LY i_past33_c (0, 36, []) := ⟨by decide, by decide, rfl⟩
theorem L_past34 : LY i_past34 (2, 7, [(0, 0), (0, 0), (2, 96)]) := ⟨by decide, by decide, rfl⟩
theorem L_past34_c : LY i_past34_c (0, 36, []) := ⟨by decide, by decide, rfl⟩
theorem L_past35 : LY i_past35 (2, 7, [(0, 0), (0, 0), (2, 98)]) := ⟨by decide, by decide, rfl⟩
theorem L_past35_c : LY i_past35_c (0, 36, []) := ⟨by decide, by decide, rfl⟩
theorem L_past36 : LY i_past36 (2, 7, [(0, 0), (0, 0), (2, 100)]) := ⟨by decide, by decide, rfl⟩
theorem L_past36_c : LY i_past36_c (0, 36, []) := ⟨by decide, by decide, rfl⟩
theorem L_past37 : LY i_past37 (2, 7, [(0, 0), (0, 0), (2, 102)]) := ⟨by decide, by decide, rfl⟩
theorem L_past37_c : LY i_past37_c (0, 36, []) := ⟨by decide, by decide, rfl⟩
theorem L_past38 : LY i_past38 (2, 7, [(0, 0), (0, 0), (2, 104)]) := ⟨by decide, by decide, rfl⟩
theorem L_past38_c : LY i_past38_c (0, 36, []) := ⟨by decide, by decide, rfl⟩
theorem L_past39 : LY i_past39 (2, 7, [(0, 0), (0, 0), (2, 106)]) := ⟨by decide, by decide, rfl⟩
theorem L_past39_c : LY i_past39_c (0, 36, []) := ⟨by decide, by decide, rfl⟩
theorem L_kept_a : LY i_kept_a (3, 4, [(2, 143), (2, 145), (2, 147), (2, 149)]) := ⟨by decide, by decide, rfl⟩
theorem L_scr_a : LY i_scr_a (4, 5, [(2, 151), (2, 156), (2, 161), (2, 166), (2, 171)]) := ⟨by decide, by decide, rfl⟩
theorem L_pictured : LY i_pictured (2, 7, [(0, 0), (0, 0), (2, 110)]) := ⟨by decide, by decide, rfl⟩
theorem L_pictured_c : LY i_pictured_c (0, 36, []) := ⟨by decide, by decide, rfl⟩
theorem L_refu : LY i_refu (0, 4, []) := ⟨by decide, by decide, rfl⟩
theorem L_minors : LY i_minors (2, 1, [(2, 113), (0, 0), (0, 0), (0, 0), (0, 0), (0, 0)]) := ⟨by decide, by decide, rfl⟩
theorem L_cdets : LY i_cdets (0, 4096, []) := ⟨by decide, by decide, rfl⟩
theorem L_tree : LY i_tree (2, 9, [(2, 115), (2, 117), (2, 118), (0, 0), (0, 0)]) := ⟨by decide, by decide, rfl⟩
theorem L_tree_plan : LY i_tree_plan (2, 7, [(0, 0), (0, 0), (2, 116)]) := ⟨by decide, by decide, rfl⟩
theorem L_tree_plan_c : LY i_tree_plan_c (0, 36, []) := ⟨by decide, by decide, rfl⟩
theorem L_tree_t : LY i_tree_t (0, 6, []) := ⟨by decide, by decide, rfl⟩
theorem L_tree_h : LY i_tree_h (0, 6, []) := ⟨by decide, by decide, rfl⟩
theorem L_cotree : LY i_cotree (2, 9, [(2, 120), (2, 122), (2, 123), (0, 0), (0, 0)]) := ⟨by decide, by decide, rfl⟩
theorem L_cotree_plan : LY i_cotree_plan (2, 7, [(0, 0), (0, 0), (2, 121)]) := ⟨by decide, by decide, rfl⟩
theorem L_cotree_plan_c : LY i_cotree_plan_c (0, 36, []) := ⟨by decide, by decide, rfl⟩
theorem L_cotree_t : LY i_cotree_t (0, 6, []) := ⟨by decide, by decide, rfl⟩
theorem L_cotree_h : LY i_cotree_h (0, 6, []) := ⟨by decide, by decide, rfl⟩
theorem L_signing : LY i_signing (2, 6, [(2, 125), (2, 127), (2, 128), (2, 129), (2, 130), (0, 0), (0, 0), (0, 0)]) := ⟨by decide, by decide, rfl⟩
theorem L_signs : LY i_signs (2, 7, [(0, 0), (0, 0), (2, 126)]) := ⟨by decide, by decide, rfl⟩
theorem L_signs_c : LY i_signs_c (0, 36, []) := ⟨by decide, by decide, rfl⟩
theorem L_rowParts : LY i_rowParts (0, 6, []) := ⟨by decide, by decide, rfl⟩
theorem L_columnParts : LY i_columnParts (0, 6, []) := ⟨by decide, by decide, rfl⟩
theorem L_rowsFar : LY i_rowsFar (0, 6, []) := ⟨by decide, by decide, rfl⟩
theorem L_columnsFar : LY i_columnsFar (0, 6, []) := ⟨by decide, by decide, rfl⟩
theorem L_shape : LY i_shape (2, 5, [(0, 0), (0, 0), (2, 132), (2, 133), (0, 0), (2, 134), (2, 135)]) := ⟨by decide, by decide, rfl⟩
theorem L_across : LY i_across (0, 6, []) := ⟨by decide, by decide, rfl⟩
theorem L_down : LY i_down (0, 6, []) := ⟨by decide, by decide, rfl⟩
theorem L_partRows : LY i_partRows (0, 12, []) := ⟨by decide, by decide, rfl⟩
theorem L_partColumns : LY i_partColumns (0, 12, []) := ⟨by decide, by decide, rfl⟩
theorem L_pattern : LY i_pattern (2, 3, [(2, 137), (2, 139), (2, 141)]) := ⟨by decide, by decide, rfl⟩
theorem L_special : LY i_special (2, 7, [(0, 0), (0, 0), (2, 138)]) := ⟨by decide, by decide, rfl⟩
theorem L_special_c : LY i_special_c (0, 36, []) := ⟨by decide, by decide, rfl⟩
theorem L_moved : LY i_moved (2, 7, [(0, 0), (0, 0), (2, 140)]) := ⟨by decide, by decide, rfl⟩
theorem L_moved_c : LY i_moved_c (0, 36, []) := ⟨by decide, by decide, rfl⟩
theorem L_order : LY i_order (0, 5, []) := ⟨by decide, by decide, rfl⟩
theorem L_dice : LY i_dice (2, 0, [(1, 0)]) := ⟨by decide, by decide, rfl⟩
theorem L_kept0 : LY i_kept0 (2, 7, [(0, 0), (0, 0), (2, 144)]) := ⟨by decide, by decide, rfl⟩
theorem L_kept0_c : LY i_kept0_c (0, 36, []) := ⟨by decide, by decide, rfl⟩
theorem L_kept1 : LY i_kept1 (2, 7, [(0, 0), (0, 0), (2, 146)]) := ⟨by decide, by decide, rfl⟩
theorem L_kept1_c : LY i_kept1_c (0, 36, []) := ⟨by decide, by decide, rfl⟩
theorem L_kept2 : LY i_kept2 (2, 7, [(0, 0), (0, 0), (2, 148)]) := ⟨by decide, by decide, rfl⟩
theorem L_kept2_c : LY i_kept2_c (0, 36, []) := ⟨by decide, by decide, rfl⟩
theorem L_kept3 : LY i_kept3 (2, 7, [(0, 0), (0, 0), (2, 150)]) := ⟨by decide, by decide, rfl⟩
theorem L_kept3_c : LY i_kept3_c (0, 36, []) := ⟨by decide, by decide, rfl⟩
theorem L_scr0 : LY i_scr0 (2, 4, [(0, 0), (2, 152), (2, 153), (2, 154), (2, 155)]) := ⟨by decide, by decide, rfl⟩
theorem L_scr0_k : LY i_scr0_k (0, 12, []) := ⟨by decide, by decide, rfl⟩
theorem L_scr0_f : LY i_scr0_f (0, 12, []) := ⟨by decide, by decide, rfl⟩
theorem L_scr0_s : LY i_scr0_s (0, 12, []) := ⟨by decide, by decide, rfl⟩
theorem L_scr0_v : LY i_scr0_v (0, 12, []) := ⟨by decide, by decide, rfl⟩
theorem L_scr1 : LY i_scr1 (2, 4, [(0, 0), (2, 157), (2, 158), (2, 159), (2, 160)]) := ⟨by decide, by decide, rfl⟩
theorem L_scr1_k : LY i_scr1_k (0, 12, []) := ⟨by decide, by decide, rfl⟩
theorem L_scr1_f : LY i_scr1_f (0, 12, []) := ⟨by decide, by decide, rfl⟩
theorem L_scr1_s : LY i_scr1_s (0, 12, []) := ⟨by decide, by decide, rfl⟩
theorem L_scr1_v : LY i_scr1_v (0, 12, []) := ⟨by decide, by decide, rfl⟩
theorem L_scr2 : LY i_scr2 (2, 4, [(0, 0), (2, 162), (2, 163), (2, 164), (2, 165)]) := ⟨by decide, by decide, rfl⟩
theorem L_scr2_k : LY i_scr2_k (0, 12, []) := ⟨by decide, by decide, rfl⟩
theorem L_scr2_f : LY i_scr2_f (0, 12, []) := ⟨by decide, by decide, rfl⟩
theorem L_scr2_s : LY i_scr2_s (0, 12, []) := ⟨by decide, by decide, rfl⟩
theorem L_scr2_v : LY i_scr2_v (0, 12, []) := ⟨by decide, by decide, rfl⟩
theorem L_scr3 : LY i_scr3 (2, 4, [(0, 0), (2, 167), (2, 168), (2, 169), (2, 170)]) := ⟨by decide, by decide, rfl⟩
theorem L_scr3_k : LY i_scr3_k (0, 12, []) := ⟨by decide, by decide, rfl⟩
theorem L_scr3_f : LY i_scr3_f (0, 12, []) := ⟨by decide, by decide, rfl⟩
theorem L_scr3_s : LY i_scr3_s (0, 12, []) := ⟨by decide, by decide, rfl⟩
theorem L_scr3_v : LY i_scr3_v (0, 12, []) := ⟨by decide, by decide, rfl⟩
theorem L_scr4 : LY i_scr4 (2, 4, [(0, 0), (2, 172), (2, 173), (2, 174), (2, 175)]) := ⟨by decide, by decide, rfl⟩
theorem L_scr4_k : LY i_scr4_k (0, 12, []) := ⟨by decide, by decide, rfl⟩
theorem L_scr4_f : LY i_scr4_f (0, 12, []) := ⟨by decide, by decide, rfl⟩
theorem L_scr4_s : LY i_scr4_s (0, 12, []) := ⟨by decide, by decide, rfl⟩
theorem L_scr4_v : LY i_scr4_v (0, 12, []) := ⟨by decide, by decide, rfl⟩
theorem L_M : LY i_M (2, 11, [(0, 0), (2, 177), (0, 0), (0, 0), (0, 0), (2, 178), (2, 179), (2, 180), (2, 181), (2, 182), (2, 183), (2, 184), (0, 0), (0, 0), (2, 185), (0, 0), (2, 186), (2, 187), (2, 188), (2, 189), (2, 190), (0, 0), (2, 191), (2, 192), (2, 193), (2, 194), (2, 195), (2, 196), (2, 197), (2, 198), (2, 199), (1, 0), (2, 200), (0, 0), (0, 0)]) := ⟨by decide, by decide, rfl⟩
theorem L_m_tape : LY i_m_tape (1, 240, []) := ⟨by decide, by decide, rfl⟩
theorem L_m_now : LY i_m_now (0, 38, []) := ⟨by decide, by decide, rfl⟩
theorem L_m_read : LY i_m_read (0, 38, []) := ⟨by decide, by decide, rfl⟩
theorem L_m_trial : LY i_m_trial (0, 38, []) := ⟨by decide, by decide, rfl⟩
theorem L_m_kept : LY i_m_kept (0, 152, []) := ⟨by decide, by decide, rfl⟩
theorem L_m_plan : LY i_m_plan (0, 240, []) := ⟨by decide, by decide, rfl⟩
theorem L_m_planLong : LY i_m_planLong (0, 5, []) := ⟨by decide, by decide, rfl⟩
theorem L_m_status : LY i_m_status (0, 4, []) := ⟨by decide, by decide, rfl⟩
theorem L_m_undoRow : LY i_m_undoRow (0, 1520, []) := ⟨by decide, by decide, rfl⟩
theorem L_m_dets : LY i_m_dets (0, 4096, []) := ⟨by decide, by decide, rfl⟩
theorem L_m_from : LY i_m_from (0, 12, []) := ⟨by decide, by decide, rfl⟩
theorem L_m_to : LY i_m_to (0, 12, []) := ⟨by decide, by decide, rfl⟩
theorem L_m_treeRow : LY i_m_treeRow (0, 38, []) := ⟨by decide, by decide, rfl⟩
theorem L_m_walk : LY i_m_walk (0, 6, []) := ⟨by decide, by decide, rfl⟩
theorem L_m_part : LY i_m_part (0, 12, []) := ⟨by decide, by decide, rfl⟩
theorem L_m_steps : LY i_m_steps (0, 12, []) := ⟨by decide, by decide, rfl⟩
theorem L_m_sign : LY i_m_sign (0, 38, []) := ⟨by decide, by decide, rfl⟩
theorem L_m_factor : LY i_m_factor (0, 12, []) := ⟨by decide, by decide, rfl⟩
theorem L_m_goal : LY i_m_goal (0, 38, []) := ⟨by decide, by decide, rfl⟩
theorem L_m_laid : LY i_m_laid (0, 38, []) := ⟨by decide, by decide, rfl⟩
theorem L_m_rowsLaid : LY i_m_rowsLaid (0, 6, []) := ⟨by decide, by decide, rfl⟩
theorem L_m_columnsLaid : LY i_m_columnsLaid (0, 6, []) := ⟨by decide, by decide, rfl⟩
theorem L_m_apart : LY i_m_apart (0, 38, []) := ⟨by decide, by decide, rfl⟩
theorem L_m_imageRow : LY i_m_imageRow (0, 38, []) := ⟨by decide, by decide, rfl⟩
theorem L_out : LY i_out (5, 1, []) := ⟨by decide, by decide, rfl⟩
end
section
def QI (v : Int32) (w0 : aW) : Option Value → aW → Prop := fun r w => r = some (.int v) ∧ w = w0
def QV (w0 : aW) : Option Value → aW → Prop := fun r w => r = none ∧ w = w0
def QR (a : Nat) (w0 : aW) : Option Value → aW → Prop := fun r w => r = some (.ref a) ∧ w = w0
theorem vp_in_j {x : Int32} {j n : Nat} (hx : x = nI j) (hj : j < n) (hn : n < 2 ^ 31) : vp_in x n ∧ x.toNatClampNeg = j := by
  subst hx
  exact ⟨vp_in_nI hj hn, nI_clamp (by omega)⟩
section SRULES
variable {m : mi} {X : aX} {pc : Nat} {ls : List (Option Value)} {st : List Value} {σ : sg} {x : aW} {cl sl : Nat}
theorem R_gI (hC : Cx m X) {i idx ci k z : Nat} {fin : Bool} {ty : FieldType} {fl : List (Nat × Nat)} (hd : decode m.2.1 pc = .ok (.getfield idx, 3)) (hf : FL m.1.cls idx ci k fin ty) (hL : LY i (2, ci, fl)) (hk : fl[k]? = some (0, z))
    (kk : Rw m X (pc + 3) ls (.int (σ.1 i k) :: st) (wd σ x) cl sl) : Rw m X pc ls (.ref i :: st) (wd σ x) cl sl :=
  R_get hC hd hf (wd_at hL) (by rw [fv_get_i fl 0 k z hk, Nat.zero_add]) kk
theorem R_gL (hC : Cx m X) {i idx ci k z : Nat} {fin : Bool} {ty : FieldType} {fl : List (Nat × Nat)} (hd : decode m.2.1 pc = .ok (.getfield idx, 3)) (hf : FL m.1.cls idx ci k fin ty) (hL : LY i (2, ci, fl)) (hk : fl[k]? = some (1, z))
    (kk : Rw m X (pc + 3) ls (.long (σ.2.1 i) :: st) (wd σ x) cl sl) : Rw m X pc ls (.ref i :: st) (wd σ x) cl sl :=
  R_get hC hd hf (wd_at hL) (fv_get_l fl 0 k z hk) kk
theorem R_gR (hC : Cx m X) {i idx ci k z : Nat} {fin : Bool} {ty : FieldType} {fl : List (Nat × Nat)} (hd : decode m.2.1 pc = .ok (.getfield idx, 3)) (hf : FL m.1.cls idx ci k fin ty) (hL : LY i (2, ci, fl)) (hk : fl[k]? = some (2, z))
    (kk : Rw m X (pc + 3) ls (.ref z :: st) (wd σ x) cl sl) : Rw m X pc ls (.ref i :: st) (wd σ x) cl sl :=
  R_get hC hd hf (wd_at hL) (fv_get_r fl 0 k z hk) kk
theorem R_pI (hC : Cx m X) {i idx ci k z : Nat} {fl : List (Nat × Nat)} {v : Int32} (hd : decode m.2.1 pc = .ok (.putfield idx, 3)) (hf : FL m.1.cls idx ci k false .int) (hL : LY i (2, ci, fl)) (hk : fl[k]? = some (0, z))
    (kk : Rw m X (pc + 3) ls st (wd (sG σ i k v) x) cl sl) : Rw m X pc ls (.int v :: .ref i :: st) (wd σ x) cl sl := by
  refine R_put hC hd hf hL.1 (wd_at hL) (by rw [fv_len]; exact (List.getElem?_eq_some_iff.mp hk).1) (fun _ => ⟨rfl, rfl⟩) ?_
  rw [wd_putI hL hk]
  exact kk
theorem R_pZ (hC : Cx m X) {i idx ci k z : Nat} {fl : List (Nat × Nat)} {v : Int32} (hd : decode m.2.1 pc = .ok (.putfield idx, 3)) (hf : FL m.1.cls idx ci k false .boolean) (hL : LY i (2, ci, fl)) (hk : fl[k]? = some (0, z)) (hv : v = 0 ∨ v = 1)
    (kk : Rw m X (pc + 3) ls st (wd (sG σ i k v) x) cl sl) : Rw m X pc ls (.int v :: .ref i :: st) (wd σ x) cl sl := by
  refine R_put hC hd hf hL.1 (wd_at hL) (by rw [fv_len]; exact (List.getElem?_eq_some_iff.mp hk).1) (fun _ => by
    rcases hv with rfl | rfl
    · exact (show narrow .boolean (.int 0) = .int 0 ∧ fits .boolean (.int 0) = true from ⟨by decide, by decide⟩)
    · exact (show narrow .boolean (.int 1) = .int 1 ∧ fits .boolean (.int 1) = true from ⟨by decide, by decide⟩)) ?_
  rw [wd_putI hL hk]
  exact kk
theorem R_pL (hC : Cx m X) {i idx ci k z : Nat} {fl : List (Nat × Nat)} {v : Int64} (hd : decode m.2.1 pc = .ok (.putfield idx, 3)) (hf : FL m.1.cls idx ci k false .long) (hL : LY i (2, ci, fl)) (hk : fl[k]? = some (1, z)) (hu : ∀ k2 z2, fl[k2]? = some (1, z2) → k2 = k)
    (kk : Rw m X (pc + 3) ls st (wd (sL σ i v) x) cl sl) : Rw m X pc ls (.long v :: .ref i :: st) (wd σ x) cl sl := by
  refine R_put hC hd hf hL.1 (wd_at hL) (by rw [fv_len]; exact (List.getElem?_eq_some_iff.mp hk).1) (fun _ => ⟨rfl, rfl⟩) ?_
  rw [wd_putL hL hk hu]
  exact kk
theorem R_aI (hC : Cx m X) {i n : Nat} {fl : List (Nat × Nat)} {q : Int32} (hd : decode m.2.1 pc = .ok (.iaload, 1)) (hL : LY i (0, n, fl)) (j : Nat) (hx : q = nI j) (hj : j < n) (hn : n < 2 ^ 31)
    (kk : Rw m X (pc + 1) ls (.int (σ.2.2 i j) :: st) (wd σ x) cl sl) : Rw m X pc ls (.int q :: .ref i :: st) (wd σ x) cl sl := by
  obtain ⟨h1, h2⟩ := vp_in_j hx hj hn
  refine R_iaload hC hd (wd_at hL) h1 ?_
  rw [h2]
  exact kk
theorem R_aB (hC : Cx m X) {i n : Nat} {fl : List (Nat × Nat)} {q : Int32} (hd : decode m.2.1 pc = .ok (.baload, 1)) (hL : LY i (1, n, fl)) (j : Nat) (hx : q = nI j) (hj : j < n) (hn : n < 2 ^ 31)
    (kk : Rw m X (pc + 1) ls (.int (σ.2.2 i j) :: st) (wd σ x) cl sl) : Rw m X pc ls (.int q :: .ref i :: st) (wd σ x) cl sl := by
  obtain ⟨h1, h2⟩ := vp_in_j hx hj hn
  refine R_baload hC hd (wd_at hL) h1 ?_
  rw [h2]
  exact kk
theorem R_sI (hC : Cx m X) {i n : Nat} {fl : List (Nat × Nat)} {q v : Int32} (hd : decode m.2.1 pc = .ok (.iastore, 1)) (hL : LY i (0, n, fl)) (j : Nat) (hx : q = nI j) (hj : j < n) (hn : n < 2 ^ 31)
    (kk : Rw m X (pc + 1) ls st (wd (sA σ i (upd (σ.2.2 i) j v)) x) cl sl) : Rw m X pc ls (.int v :: .int q :: .ref i :: st) (wd σ x) cl sl := by
  obtain ⟨h1, h2⟩ := vp_in_j hx hj hn
  refine R_iastore hC hd hL.1 (wd_at hL) h1 ?_
  rw [h2, wd_putA hL]
  exact kk
theorem R_sB (hC : Cx m X) {i n : Nat} {fl : List (Nat × Nat)} {q v : Int32} (hd : decode m.2.1 pc = .ok (.bastore, 1)) (hL : LY i (1, n, fl)) (j : Nat) (hx : q = nI j) (hj : j < n) (hn : n < 2 ^ 31)
    (kk : Rw m X (pc + 1) ls st (wd (sA σ i (upd (σ.2.2 i) j (vp_nar .byte v))) x) cl sl) : Rw m X pc ls (.int v :: .int q :: .ref i :: st) (wd σ x) cl sl := by
  obtain ⟨h1, h2⟩ := vp_in_j hx hj hn
  refine R_bastore hC hd hL.1 (wd_at hL) h1 ?_
  rw [h2, wd_putB hL]
  exact kk
theorem R_aR (hC : Cx m X) {i n t b z : Nat} {fl : List (Nat × Nat)} {q : Int32} (hd : decode m.2.1 pc = .ok (.aaload, 1)) (hL : LY i (t, n, fl)) (ht : t = 3 ∨ t = 4) (j : Nat) (hx : q = nI j) (hj : j < n) (hn : n < 2 ^ 31) (hb : fl[j]? = some (z, b))
    (kk : Rw m X (pc + 1) ls (.ref b :: st) (wd σ x) cl sl) : Rw m X pc ls (.int q :: .ref i :: st) (wd σ x) cl sl := by
  obtain ⟨h1, h2⟩ := vp_in_j hx hj hn
  have hw : (wd σ x).2 i = some (.inl (t, n, .inr (.inr (.inr (.inr (fun j => (fl[j]?).map Prod.snd)))))) := by
    rw [wd_at hL]
    rcases ht with rfl | rfl <;> rfl
  exact R_aaload hC hd hw ht h1 (by rw [h2, hb]; rfl) kk
end SRULES
section CALLN
variable {m : mi} {X : aX} {pc : Nat} {ls : List (Option Value)} {st : List Value} {σ : sg} {x : aW} {w : aW} {cl sl : Nat}

theorem R_S0g (hC : Cx m X) {j : mi} {idx d dd mcX msX : Nat} {Q : Option Value → aW → Prop} (hR : Rd X dd mcX msX) (hd : decode m.2.1 pc = .ok (.invokestatic idx, 3)) (hj : MS j 0) (hl : ML m.1.cls idx j) (hM : Mt j d 0 0 [] w Q) (hdd : d + 1 ≤ dd) (hroom : cl ≤ mcX ∧ sl ≤ msX) (hcat : (st.map fun v => v.category).sum ≤ 8)
    (kk : ∀ (r : Option Value) (w1 : aW), Q r w1 → Rw m X (pc + 3) ls (r.toList ++ st) w1 cl sl) : Rw m X pc ls (st) w cl sl :=
  R_callS (As := []) hC hR hd hj hl hM rfl hdd hroom hcat kk
theorem R_S0i (hC : Cx m X) {j : mi} {idx d dd mcX msX : Nat} {v : Int32} {w1 : aW} (hR : Rd X dd mcX msX) (hd : decode m.2.1 pc = .ok (.invokestatic idx, 3)) (hj : MS j 0) (hl : ML m.1.cls idx j) (hM : Mt j d 0 0 [] w (QI v w1)) (hdd : d + 1 ≤ dd) (hroom : cl ≤ mcX ∧ sl ≤ msX) (hcat : (st.map fun v => v.category).sum ≤ 8)
    (kk : Rw m X (pc + 3) ls (.int v :: st) w1 cl sl) : Rw m X pc ls (st) w cl sl :=
  R_callS (As := []) hC hR hd hj hl hM rfl hdd hroom hcat (fun r w2 hq => by obtain ⟨rfl, rfl⟩ := hq; exact kk)
theorem R_S0v (hC : Cx m X) {j : mi} {idx d dd mcX msX : Nat} {w1 : aW} (hR : Rd X dd mcX msX) (hd : decode m.2.1 pc = .ok (.invokestatic idx, 3)) (hj : MS j 0) (hl : ML m.1.cls idx j) (hM : Mt j d 0 0 [] w (QV w1)) (hdd : d + 1 ≤ dd) (hroom : cl ≤ mcX ∧ sl ≤ msX) (hcat : (st.map fun v => v.category).sum ≤ 8)
    (kk : Rw m X (pc + 3) ls st w1 cl sl) : Rw m X pc ls (st) w cl sl :=
  R_callS (As := []) hC hR hd hj hl hM rfl hdd hroom hcat (fun r w2 hq => by obtain ⟨rfl, rfl⟩ := hq; exact kk)
theorem R_S0r (hC : Cx m X) {j : mi} {idx d dd mcX msX : Nat} {b : Nat} {w1 : aW} (hR : Rd X dd mcX msX) (hd : decode m.2.1 pc = .ok (.invokestatic idx, 3)) (hj : MS j 0) (hl : ML m.1.cls idx j) (hM : Mt j d 0 0 [] w (QR b w1)) (hdd : d + 1 ≤ dd) (hroom : cl ≤ mcX ∧ sl ≤ msX) (hcat : (st.map fun v => v.category).sum ≤ 8)
    (kk : Rw m X (pc + 3) ls (.ref b :: st) w1 cl sl) : Rw m X pc ls (st) w cl sl :=
  R_callS (As := []) hC hR hd hj hl hM rfl hdd hroom hcat (fun r w2 hq => by obtain ⟨rfl, rfl⟩ := hq; exact kk)
theorem R_V0g (hC : Cx m X) {j : mi} {idx d dd mcX msX : Nat} {i ci N : Nat} {T : u_T} {fl : List (Nat × Nat)} {Q : Option Value → aW → Prop} (hR : Rd X dd mcX msX) (hd : decode m.2.1 pc = .ok (.invokevirtual idx, 3)) (hj : MV j 0) (hl : ML m.1.cls idx j) (hL : LY i (2, ci, fl)) (hcl : vwCl[ci]? = some (j.1.cls, T, N)) (hM : Mt j d 0 0 (.ref i :: []) (wd σ x) Q) (hdd : d + 1 ≤ dd) (hroom : cl ≤ mcX ∧ sl ≤ msX) (hcat : (st.map fun v => v.category).sum ≤ 8)
    (kk : ∀ (r : Option Value) (w1 : aW), Q r w1 → Rw m X (pc + 3) ls (r.toList ++ st) w1 cl sl) : Rw m X pc ls (.ref i :: st) (wd σ x) cl sl :=
  R_callV (As := []) hC hR hd hj hl (wd_at hL) hcl hM rfl hdd hroom hcat kk
theorem R_V0i (hC : Cx m X) {j : mi} {idx d dd mcX msX : Nat} {i ci N : Nat} {T : u_T} {fl : List (Nat × Nat)} {v : Int32} {w1 : aW} (hR : Rd X dd mcX msX) (hd : decode m.2.1 pc = .ok (.invokevirtual idx, 3)) (hj : MV j 0) (hl : ML m.1.cls idx j) (hL : LY i (2, ci, fl)) (hcl : vwCl[ci]? = some (j.1.cls, T, N)) (hM : Mt j d 0 0 (.ref i :: []) (wd σ x) (QI v w1)) (hdd : d + 1 ≤ dd) (hroom : cl ≤ mcX ∧ sl ≤ msX) (hcat : (st.map fun v => v.category).sum ≤ 8)
    (kk : Rw m X (pc + 3) ls (.int v :: st) w1 cl sl) : Rw m X pc ls (.ref i :: st) (wd σ x) cl sl :=
  R_callV (As := []) hC hR hd hj hl (wd_at hL) hcl hM rfl hdd hroom hcat (fun r w2 hq => by obtain ⟨rfl, rfl⟩ := hq; exact kk)
theorem R_V0v (hC : Cx m X) {j : mi} {idx d dd mcX msX : Nat} {i ci N : Nat} {T : u_T} {fl : List (Nat × Nat)} {w1 : aW} (hR : Rd X dd mcX msX) (hd : decode m.2.1 pc = .ok (.invokevirtual idx, 3)) (hj : MV j 0) (hl : ML m.1.cls idx j) (hL : LY i (2, ci, fl)) (hcl : vwCl[ci]? = some (j.1.cls, T, N)) (hM : Mt j d 0 0 (.ref i :: []) (wd σ x) (QV w1)) (hdd : d + 1 ≤ dd) (hroom : cl ≤ mcX ∧ sl ≤ msX) (hcat : (st.map fun v => v.category).sum ≤ 8)
    (kk : Rw m X (pc + 3) ls st w1 cl sl) : Rw m X pc ls (.ref i :: st) (wd σ x) cl sl :=
  R_callV (As := []) hC hR hd hj hl (wd_at hL) hcl hM rfl hdd hroom hcat (fun r w2 hq => by obtain ⟨rfl, rfl⟩ := hq; exact kk)
theorem R_V0r (hC : Cx m X) {j : mi} {idx d dd mcX msX : Nat} {i ci N : Nat} {T : u_T} {fl : List (Nat × Nat)} {b : Nat} {w1 : aW} (hR : Rd X dd mcX msX) (hd : decode m.2.1 pc = .ok (.invokevirtual idx, 3)) (hj : MV j 0) (hl : ML m.1.cls idx j) (hL : LY i (2, ci, fl)) (hcl : vwCl[ci]? = some (j.1.cls, T, N)) (hM : Mt j d 0 0 (.ref i :: []) (wd σ x) (QR b w1)) (hdd : d + 1 ≤ dd) (hroom : cl ≤ mcX ∧ sl ≤ msX) (hcat : (st.map fun v => v.category).sum ≤ 8)
    (kk : Rw m X (pc + 3) ls (.ref b :: st) w1 cl sl) : Rw m X pc ls (.ref i :: st) (wd σ x) cl sl :=
  R_callV (As := []) hC hR hd hj hl (wd_at hL) hcl hM rfl hdd hroom hcat (fun r w2 hq => by obtain ⟨rfl, rfl⟩ := hq; exact kk)
theorem R_S1g (hC : Cx m X) {j : mi} {idx d dd mcX msX : Nat} {a1 : Value} {Q : Option Value → aW → Prop} (hR : Rd X dd mcX msX) (hd : decode m.2.1 pc = .ok (.invokestatic idx, 3)) (hj : MS j 1) (hl : ML m.1.cls idx j) (hM : Mt j d 0 0 [a1] w Q) (hdd : d + 1 ≤ dd) (hroom : cl ≤ mcX ∧ sl ≤ msX) (hcat : (st.map fun v => v.category).sum ≤ 8)
    (kk : ∀ (r : Option Value) (w1 : aW), Q r w1 → Rw m X (pc + 3) ls (r.toList ++ st) w1 cl sl) : Rw m X pc ls (a1 :: st) w cl sl :=
  R_callS (As := [a1]) hC hR hd hj hl hM rfl hdd hroom hcat kk
theorem R_S1i (hC : Cx m X) {j : mi} {idx d dd mcX msX : Nat} {a1 : Value} {v : Int32} {w1 : aW} (hR : Rd X dd mcX msX) (hd : decode m.2.1 pc = .ok (.invokestatic idx, 3)) (hj : MS j 1) (hl : ML m.1.cls idx j) (hM : Mt j d 0 0 [a1] w (QI v w1)) (hdd : d + 1 ≤ dd) (hroom : cl ≤ mcX ∧ sl ≤ msX) (hcat : (st.map fun v => v.category).sum ≤ 8)
    (kk : Rw m X (pc + 3) ls (.int v :: st) w1 cl sl) : Rw m X pc ls (a1 :: st) w cl sl :=
  R_callS (As := [a1]) hC hR hd hj hl hM rfl hdd hroom hcat (fun r w2 hq => by obtain ⟨rfl, rfl⟩ := hq; exact kk)
theorem R_S1v (hC : Cx m X) {j : mi} {idx d dd mcX msX : Nat} {a1 : Value} {w1 : aW} (hR : Rd X dd mcX msX) (hd : decode m.2.1 pc = .ok (.invokestatic idx, 3)) (hj : MS j 1) (hl : ML m.1.cls idx j) (hM : Mt j d 0 0 [a1] w (QV w1)) (hdd : d + 1 ≤ dd) (hroom : cl ≤ mcX ∧ sl ≤ msX) (hcat : (st.map fun v => v.category).sum ≤ 8)
    (kk : Rw m X (pc + 3) ls st w1 cl sl) : Rw m X pc ls (a1 :: st) w cl sl :=
  R_callS (As := [a1]) hC hR hd hj hl hM rfl hdd hroom hcat (fun r w2 hq => by obtain ⟨rfl, rfl⟩ := hq; exact kk)
theorem R_S1r (hC : Cx m X) {j : mi} {idx d dd mcX msX : Nat} {a1 : Value} {b : Nat} {w1 : aW} (hR : Rd X dd mcX msX) (hd : decode m.2.1 pc = .ok (.invokestatic idx, 3)) (hj : MS j 1) (hl : ML m.1.cls idx j) (hM : Mt j d 0 0 [a1] w (QR b w1)) (hdd : d + 1 ≤ dd) (hroom : cl ≤ mcX ∧ sl ≤ msX) (hcat : (st.map fun v => v.category).sum ≤ 8)
    (kk : Rw m X (pc + 3) ls (.ref b :: st) w1 cl sl) : Rw m X pc ls (a1 :: st) w cl sl :=
  R_callS (As := [a1]) hC hR hd hj hl hM rfl hdd hroom hcat (fun r w2 hq => by obtain ⟨rfl, rfl⟩ := hq; exact kk)
theorem R_V1g (hC : Cx m X) {j : mi} {idx d dd mcX msX : Nat} {i ci N : Nat} {T : u_T} {fl : List (Nat × Nat)} {a1 : Value} {Q : Option Value → aW → Prop} (hR : Rd X dd mcX msX) (hd : decode m.2.1 pc = .ok (.invokevirtual idx, 3)) (hj : MV j 1) (hl : ML m.1.cls idx j) (hL : LY i (2, ci, fl)) (hcl : vwCl[ci]? = some (j.1.cls, T, N)) (hM : Mt j d 0 0 (.ref i :: [a1]) (wd σ x) Q) (hdd : d + 1 ≤ dd) (hroom : cl ≤ mcX ∧ sl ≤ msX) (hcat : (st.map fun v => v.category).sum ≤ 8)
    (kk : ∀ (r : Option Value) (w1 : aW), Q r w1 → Rw m X (pc + 3) ls (r.toList ++ st) w1 cl sl) : Rw m X pc ls (a1 :: .ref i :: st) (wd σ x) cl sl :=
  R_callV (As := [a1]) hC hR hd hj hl (wd_at hL) hcl hM rfl hdd hroom hcat kk
theorem R_V1i (hC : Cx m X) {j : mi} {idx d dd mcX msX : Nat} {i ci N : Nat} {T : u_T} {fl : List (Nat × Nat)} {a1 : Value} {v : Int32} {w1 : aW} (hR : Rd X dd mcX msX) (hd : decode m.2.1 pc = .ok (.invokevirtual idx, 3)) (hj : MV j 1) (hl : ML m.1.cls idx j) (hL : LY i (2, ci, fl)) (hcl : vwCl[ci]? = some (j.1.cls, T, N)) (hM : Mt j d 0 0 (.ref i :: [a1]) (wd σ x) (QI v w1)) (hdd : d + 1 ≤ dd) (hroom : cl ≤ mcX ∧ sl ≤ msX) (hcat : (st.map fun v => v.category).sum ≤ 8)
    (kk : Rw m X (pc + 3) ls (.int v :: st) w1 cl sl) : Rw m X pc ls (a1 :: .ref i :: st) (wd σ x) cl sl :=
  R_callV (As := [a1]) hC hR hd hj hl (wd_at hL) hcl hM rfl hdd hroom hcat (fun r w2 hq => by obtain ⟨rfl, rfl⟩ := hq; exact kk)
theorem R_V1v (hC : Cx m X) {j : mi} {idx d dd mcX msX : Nat} {i ci N : Nat} {T : u_T} {fl : List (Nat × Nat)} {a1 : Value} {w1 : aW} (hR : Rd X dd mcX msX) (hd : decode m.2.1 pc = .ok (.invokevirtual idx, 3)) (hj : MV j 1) (hl : ML m.1.cls idx j) (hL : LY i (2, ci, fl)) (hcl : vwCl[ci]? = some (j.1.cls, T, N)) (hM : Mt j d 0 0 (.ref i :: [a1]) (wd σ x) (QV w1)) (hdd : d + 1 ≤ dd) (hroom : cl ≤ mcX ∧ sl ≤ msX) (hcat : (st.map fun v => v.category).sum ≤ 8)
    (kk : Rw m X (pc + 3) ls st w1 cl sl) : Rw m X pc ls (a1 :: .ref i :: st) (wd σ x) cl sl :=
  R_callV (As := [a1]) hC hR hd hj hl (wd_at hL) hcl hM rfl hdd hroom hcat (fun r w2 hq => by obtain ⟨rfl, rfl⟩ := hq; exact kk)
theorem R_V1r (hC : Cx m X) {j : mi} {idx d dd mcX msX : Nat} {i ci N : Nat} {T : u_T} {fl : List (Nat × Nat)} {a1 : Value} {b : Nat} {w1 : aW} (hR : Rd X dd mcX msX) (hd : decode m.2.1 pc = .ok (.invokevirtual idx, 3)) (hj : MV j 1) (hl : ML m.1.cls idx j) (hL : LY i (2, ci, fl)) (hcl : vwCl[ci]? = some (j.1.cls, T, N)) (hM : Mt j d 0 0 (.ref i :: [a1]) (wd σ x) (QR b w1)) (hdd : d + 1 ≤ dd) (hroom : cl ≤ mcX ∧ sl ≤ msX) (hcat : (st.map fun v => v.category).sum ≤ 8)
    (kk : Rw m X (pc + 3) ls (.ref b :: st) w1 cl sl) : Rw m X pc ls (a1 :: .ref i :: st) (wd σ x) cl sl :=
  R_callV (As := [a1]) hC hR hd hj hl (wd_at hL) hcl hM rfl hdd hroom hcat (fun r w2 hq => by obtain ⟨rfl, rfl⟩ := hq; exact kk)
theorem R_S2g (hC : Cx m X) {j : mi} {idx d dd mcX msX : Nat} {a1 a2 : Value} {Q : Option Value → aW → Prop} (hR : Rd X dd mcX msX) (hd : decode m.2.1 pc = .ok (.invokestatic idx, 3)) (hj : MS j 2) (hl : ML m.1.cls idx j) (hM : Mt j d 0 0 [a1, a2] w Q) (hdd : d + 1 ≤ dd) (hroom : cl ≤ mcX ∧ sl ≤ msX) (hcat : (st.map fun v => v.category).sum ≤ 8)
    (kk : ∀ (r : Option Value) (w1 : aW), Q r w1 → Rw m X (pc + 3) ls (r.toList ++ st) w1 cl sl) : Rw m X pc ls (a2 :: a1 :: st) w cl sl :=
  R_callS (As := [a1, a2]) hC hR hd hj hl hM rfl hdd hroom hcat kk
theorem R_S2i (hC : Cx m X) {j : mi} {idx d dd mcX msX : Nat} {a1 a2 : Value} {v : Int32} {w1 : aW} (hR : Rd X dd mcX msX) (hd : decode m.2.1 pc = .ok (.invokestatic idx, 3)) (hj : MS j 2) (hl : ML m.1.cls idx j) (hM : Mt j d 0 0 [a1, a2] w (QI v w1)) (hdd : d + 1 ≤ dd) (hroom : cl ≤ mcX ∧ sl ≤ msX) (hcat : (st.map fun v => v.category).sum ≤ 8)
    (kk : Rw m X (pc + 3) ls (.int v :: st) w1 cl sl) : Rw m X pc ls (a2 :: a1 :: st) w cl sl :=
  R_callS (As := [a1, a2]) hC hR hd hj hl hM rfl hdd hroom hcat (fun r w2 hq => by obtain ⟨rfl, rfl⟩ := hq; exact kk)
theorem R_S2v (hC : Cx m X) {j : mi} {idx d dd mcX msX : Nat} {a1 a2 : Value} {w1 : aW} (hR : Rd X dd mcX msX) (hd : decode m.2.1 pc = .ok (.invokestatic idx, 3)) (hj : MS j 2) (hl : ML m.1.cls idx j) (hM : Mt j d 0 0 [a1, a2] w (QV w1)) (hdd : d + 1 ≤ dd) (hroom : cl ≤ mcX ∧ sl ≤ msX) (hcat : (st.map fun v => v.category).sum ≤ 8)
    (kk : Rw m X (pc + 3) ls st w1 cl sl) : Rw m X pc ls (a2 :: a1 :: st) w cl sl :=
  R_callS (As := [a1, a2]) hC hR hd hj hl hM rfl hdd hroom hcat (fun r w2 hq => by obtain ⟨rfl, rfl⟩ := hq; exact kk)
theorem R_S2r (hC : Cx m X) {j : mi} {idx d dd mcX msX : Nat} {a1 a2 : Value} {b : Nat} {w1 : aW} (hR : Rd X dd mcX msX) (hd : decode m.2.1 pc = .ok (.invokestatic idx, 3)) (hj : MS j 2) (hl : ML m.1.cls idx j) (hM : Mt j d 0 0 [a1, a2] w (QR b w1)) (hdd : d + 1 ≤ dd) (hroom : cl ≤ mcX ∧ sl ≤ msX) (hcat : (st.map fun v => v.category).sum ≤ 8)
    (kk : Rw m X (pc + 3) ls (.ref b :: st) w1 cl sl) : Rw m X pc ls (a2 :: a1 :: st) w cl sl :=
  R_callS (As := [a1, a2]) hC hR hd hj hl hM rfl hdd hroom hcat (fun r w2 hq => by obtain ⟨rfl, rfl⟩ := hq; exact kk)
theorem R_V2g (hC : Cx m X) {j : mi} {idx d dd mcX msX : Nat} {i ci N : Nat} {T : u_T} {fl : List (Nat × Nat)} {a1 a2 : Value} {Q : Option Value → aW → Prop} (hR : Rd X dd mcX msX) (hd : decode m.2.1 pc = .ok (.invokevirtual idx, 3)) (hj : MV j 2) (hl : ML m.1.cls idx j) (hL : LY i (2, ci, fl)) (hcl : vwCl[ci]? = some (j.1.cls, T, N)) (hM : Mt j d 0 0 (.ref i :: [a1, a2]) (wd σ x) Q) (hdd : d + 1 ≤ dd) (hroom : cl ≤ mcX ∧ sl ≤ msX) (hcat : (st.map fun v => v.category).sum ≤ 8)
    (kk : ∀ (r : Option Value) (w1 : aW), Q r w1 → Rw m X (pc + 3) ls (r.toList ++ st) w1 cl sl) : Rw m X pc ls (a2 :: a1 :: .ref i :: st) (wd σ x) cl sl :=
  R_callV (As := [a1, a2]) hC hR hd hj hl (wd_at hL) hcl hM rfl hdd hroom hcat kk
theorem R_V2i (hC : Cx m X) {j : mi} {idx d dd mcX msX : Nat} {i ci N : Nat} {T : u_T} {fl : List (Nat × Nat)} {a1 a2 : Value} {v : Int32} {w1 : aW} (hR : Rd X dd mcX msX) (hd : decode m.2.1 pc = .ok (.invokevirtual idx, 3)) (hj : MV j 2) (hl : ML m.1.cls idx j) (hL : LY i (2, ci, fl)) (hcl : vwCl[ci]? = some (j.1.cls, T, N)) (hM : Mt j d 0 0 (.ref i :: [a1, a2]) (wd σ x) (QI v w1)) (hdd : d + 1 ≤ dd) (hroom : cl ≤ mcX ∧ sl ≤ msX) (hcat : (st.map fun v => v.category).sum ≤ 8)
    (kk : Rw m X (pc + 3) ls (.int v :: st) w1 cl sl) : Rw m X pc ls (a2 :: a1 :: .ref i :: st) (wd σ x) cl sl :=
  R_callV (As := [a1, a2]) hC hR hd hj hl (wd_at hL) hcl hM rfl hdd hroom hcat (fun r w2 hq => by obtain ⟨rfl, rfl⟩ := hq; exact kk)
theorem R_V2v (hC : Cx m X) {j : mi} {idx d dd mcX msX : Nat} {i ci N : Nat} {T : u_T} {fl : List (Nat × Nat)} {a1 a2 : Value} {w1 : aW} (hR : Rd X dd mcX msX) (hd : decode m.2.1 pc = .ok (.invokevirtual idx, 3)) (hj : MV j 2) (hl : ML m.1.cls idx j) (hL : LY i (2, ci, fl)) (hcl : vwCl[ci]? = some (j.1.cls, T, N)) (hM : Mt j d 0 0 (.ref i :: [a1, a2]) (wd σ x) (QV w1)) (hdd : d + 1 ≤ dd) (hroom : cl ≤ mcX ∧ sl ≤ msX) (hcat : (st.map fun v => v.category).sum ≤ 8)
    (kk : Rw m X (pc + 3) ls st w1 cl sl) : Rw m X pc ls (a2 :: a1 :: .ref i :: st) (wd σ x) cl sl :=
  R_callV (As := [a1, a2]) hC hR hd hj hl (wd_at hL) hcl hM rfl hdd hroom hcat (fun r w2 hq => by obtain ⟨rfl, rfl⟩ := hq; exact kk)
theorem R_V2r (hC : Cx m X) {j : mi} {idx d dd mcX msX : Nat} {i ci N : Nat} {T : u_T} {fl : List (Nat × Nat)} {a1 a2 : Value} {b : Nat} {w1 : aW} (hR : Rd X dd mcX msX) (hd : decode m.2.1 pc = .ok (.invokevirtual idx, 3)) (hj : MV j 2) (hl : ML m.1.cls idx j) (hL : LY i (2, ci, fl)) (hcl : vwCl[ci]? = some (j.1.cls, T, N)) (hM : Mt j d 0 0 (.ref i :: [a1, a2]) (wd σ x) (QR b w1)) (hdd : d + 1 ≤ dd) (hroom : cl ≤ mcX ∧ sl ≤ msX) (hcat : (st.map fun v => v.category).sum ≤ 8)
    (kk : Rw m X (pc + 3) ls (.ref b :: st) w1 cl sl) : Rw m X pc ls (a2 :: a1 :: .ref i :: st) (wd σ x) cl sl :=
  R_callV (As := [a1, a2]) hC hR hd hj hl (wd_at hL) hcl hM rfl hdd hroom hcat (fun r w2 hq => by obtain ⟨rfl, rfl⟩ := hq; exact kk)
theorem R_S3g (hC : Cx m X) {j : mi} {idx d dd mcX msX : Nat} {a1 a2 a3 : Value} {Q : Option Value → aW → Prop} (hR : Rd X dd mcX msX) (hd : decode m.2.1 pc = .ok (.invokestatic idx, 3)) (hj : MS j 3) (hl : ML m.1.cls idx j) (hM : Mt j d 0 0 [a1, a2, a3] w Q) (hdd : d + 1 ≤ dd) (hroom : cl ≤ mcX ∧ sl ≤ msX) (hcat : (st.map fun v => v.category).sum ≤ 8)
    (kk : ∀ (r : Option Value) (w1 : aW), Q r w1 → Rw m X (pc + 3) ls (r.toList ++ st) w1 cl sl) : Rw m X pc ls (a3 :: a2 :: a1 :: st) w cl sl :=
  R_callS (As := [a1, a2, a3]) hC hR hd hj hl hM rfl hdd hroom hcat kk
theorem R_S3i (hC : Cx m X) {j : mi} {idx d dd mcX msX : Nat} {a1 a2 a3 : Value} {v : Int32} {w1 : aW} (hR : Rd X dd mcX msX) (hd : decode m.2.1 pc = .ok (.invokestatic idx, 3)) (hj : MS j 3) (hl : ML m.1.cls idx j) (hM : Mt j d 0 0 [a1, a2, a3] w (QI v w1)) (hdd : d + 1 ≤ dd) (hroom : cl ≤ mcX ∧ sl ≤ msX) (hcat : (st.map fun v => v.category).sum ≤ 8)
    (kk : Rw m X (pc + 3) ls (.int v :: st) w1 cl sl) : Rw m X pc ls (a3 :: a2 :: a1 :: st) w cl sl :=
  R_callS (As := [a1, a2, a3]) hC hR hd hj hl hM rfl hdd hroom hcat (fun r w2 hq => by obtain ⟨rfl, rfl⟩ := hq; exact kk)
theorem R_S3v (hC : Cx m X) {j : mi} {idx d dd mcX msX : Nat} {a1 a2 a3 : Value} {w1 : aW} (hR : Rd X dd mcX msX) (hd : decode m.2.1 pc = .ok (.invokestatic idx, 3)) (hj : MS j 3) (hl : ML m.1.cls idx j) (hM : Mt j d 0 0 [a1, a2, a3] w (QV w1)) (hdd : d + 1 ≤ dd) (hroom : cl ≤ mcX ∧ sl ≤ msX) (hcat : (st.map fun v => v.category).sum ≤ 8)
    (kk : Rw m X (pc + 3) ls st w1 cl sl) : Rw m X pc ls (a3 :: a2 :: a1 :: st) w cl sl :=
  R_callS (As := [a1, a2, a3]) hC hR hd hj hl hM rfl hdd hroom hcat (fun r w2 hq => by obtain ⟨rfl, rfl⟩ := hq; exact kk)
theorem R_S3r (hC : Cx m X) {j : mi} {idx d dd mcX msX : Nat} {a1 a2 a3 : Value} {b : Nat} {w1 : aW} (hR : Rd X dd mcX msX) (hd : decode m.2.1 pc = .ok (.invokestatic idx, 3)) (hj : MS j 3) (hl : ML m.1.cls idx j) (hM : Mt j d 0 0 [a1, a2, a3] w (QR b w1)) (hdd : d + 1 ≤ dd) (hroom : cl ≤ mcX ∧ sl ≤ msX) (hcat : (st.map fun v => v.category).sum ≤ 8)
    (kk : Rw m X (pc + 3) ls (.ref b :: st) w1 cl sl) : Rw m X pc ls (a3 :: a2 :: a1 :: st) w cl sl :=
  R_callS (As := [a1, a2, a3]) hC hR hd hj hl hM rfl hdd hroom hcat (fun r w2 hq => by obtain ⟨rfl, rfl⟩ := hq; exact kk)
theorem R_V3g (hC : Cx m X) {j : mi} {idx d dd mcX msX : Nat} {i ci N : Nat} {T : u_T} {fl : List (Nat × Nat)} {a1 a2 a3 : Value} {Q : Option Value → aW → Prop} (hR : Rd X dd mcX msX) (hd : decode m.2.1 pc = .ok (.invokevirtual idx, 3)) (hj : MV j 3) (hl : ML m.1.cls idx j) (hL : LY i (2, ci, fl)) (hcl : vwCl[ci]? = some (j.1.cls, T, N)) (hM : Mt j d 0 0 (.ref i :: [a1, a2, a3]) (wd σ x) Q) (hdd : d + 1 ≤ dd) (hroom : cl ≤ mcX ∧ sl ≤ msX) (hcat : (st.map fun v => v.category).sum ≤ 8)
    (kk : ∀ (r : Option Value) (w1 : aW), Q r w1 → Rw m X (pc + 3) ls (r.toList ++ st) w1 cl sl) : Rw m X pc ls (a3 :: a2 :: a1 :: .ref i :: st) (wd σ x) cl sl :=
  R_callV (As := [a1, a2, a3]) hC hR hd hj hl (wd_at hL) hcl hM rfl hdd hroom hcat kk
theorem R_V3i (hC : Cx m X) {j : mi} {idx d dd mcX msX : Nat} {i ci N : Nat} {T : u_T} {fl : List (Nat × Nat)} {a1 a2 a3 : Value} {v : Int32} {w1 : aW} (hR : Rd X dd mcX msX) (hd : decode m.2.1 pc = .ok (.invokevirtual idx, 3)) (hj : MV j 3) (hl : ML m.1.cls idx j) (hL : LY i (2, ci, fl)) (hcl : vwCl[ci]? = some (j.1.cls, T, N)) (hM : Mt j d 0 0 (.ref i :: [a1, a2, a3]) (wd σ x) (QI v w1)) (hdd : d + 1 ≤ dd) (hroom : cl ≤ mcX ∧ sl ≤ msX) (hcat : (st.map fun v => v.category).sum ≤ 8)
    (kk : Rw m X (pc + 3) ls (.int v :: st) w1 cl sl) : Rw m X pc ls (a3 :: a2 :: a1 :: .ref i :: st) (wd σ x) cl sl :=
  R_callV (As := [a1, a2, a3]) hC hR hd hj hl (wd_at hL) hcl hM rfl hdd hroom hcat (fun r w2 hq => by obtain ⟨rfl, rfl⟩ := hq; exact kk)
theorem R_V3v (hC : Cx m X) {j : mi} {idx d dd mcX msX : Nat} {i ci N : Nat} {T : u_T} {fl : List (Nat × Nat)} {a1 a2 a3 : Value} {w1 : aW} (hR : Rd X dd mcX msX) (hd : decode m.2.1 pc = .ok (.invokevirtual idx, 3)) (hj : MV j 3) (hl : ML m.1.cls idx j) (hL : LY i (2, ci, fl)) (hcl : vwCl[ci]? = some (j.1.cls, T, N)) (hM : Mt j d 0 0 (.ref i :: [a1, a2, a3]) (wd σ x) (QV w1)) (hdd : d + 1 ≤ dd) (hroom : cl ≤ mcX ∧ sl ≤ msX) (hcat : (st.map fun v => v.category).sum ≤ 8)
    (kk : Rw m X (pc + 3) ls st w1 cl sl) : Rw m X pc ls (a3 :: a2 :: a1 :: .ref i :: st) (wd σ x) cl sl :=
  R_callV (As := [a1, a2, a3]) hC hR hd hj hl (wd_at hL) hcl hM rfl hdd hroom hcat (fun r w2 hq => by obtain ⟨rfl, rfl⟩ := hq; exact kk)
theorem R_V3r (hC : Cx m X) {j : mi} {idx d dd mcX msX : Nat} {i ci N : Nat} {T : u_T} {fl : List (Nat × Nat)} {a1 a2 a3 : Value} {b : Nat} {w1 : aW} (hR : Rd X dd mcX msX) (hd : decode m.2.1 pc = .ok (.invokevirtual idx, 3)) (hj : MV j 3) (hl : ML m.1.cls idx j) (hL : LY i (2, ci, fl)) (hcl : vwCl[ci]? = some (j.1.cls, T, N)) (hM : Mt j d 0 0 (.ref i :: [a1, a2, a3]) (wd σ x) (QR b w1)) (hdd : d + 1 ≤ dd) (hroom : cl ≤ mcX ∧ sl ≤ msX) (hcat : (st.map fun v => v.category).sum ≤ 8)
    (kk : Rw m X (pc + 3) ls (.ref b :: st) w1 cl sl) : Rw m X pc ls (a3 :: a2 :: a1 :: .ref i :: st) (wd σ x) cl sl :=
  R_callV (As := [a1, a2, a3]) hC hR hd hj hl (wd_at hL) hcl hM rfl hdd hroom hcat (fun r w2 hq => by obtain ⟨rfl, rfl⟩ := hq; exact kk)
theorem R_S4g (hC : Cx m X) {j : mi} {idx d dd mcX msX : Nat} {a1 a2 a3 a4 : Value} {Q : Option Value → aW → Prop} (hR : Rd X dd mcX msX) (hd : decode m.2.1 pc = .ok (.invokestatic idx, 3)) (hj : MS j 4) (hl : ML m.1.cls idx j) (hM : Mt j d 0 0 [a1, a2, a3, a4] w Q) (hdd : d + 1 ≤ dd) (hroom : cl ≤ mcX ∧ sl ≤ msX) (hcat : (st.map fun v => v.category).sum ≤ 8)
    (kk : ∀ (r : Option Value) (w1 : aW), Q r w1 → Rw m X (pc + 3) ls (r.toList ++ st) w1 cl sl) : Rw m X pc ls (a4 :: a3 :: a2 :: a1 :: st) w cl sl :=
  R_callS (As := [a1, a2, a3, a4]) hC hR hd hj hl hM rfl hdd hroom hcat kk
theorem R_S4i (hC : Cx m X) {j : mi} {idx d dd mcX msX : Nat} {a1 a2 a3 a4 : Value} {v : Int32} {w1 : aW} (hR : Rd X dd mcX msX) (hd : decode m.2.1 pc = .ok (.invokestatic idx, 3)) (hj : MS j 4) (hl : ML m.1.cls idx j) (hM : Mt j d 0 0 [a1, a2, a3, a4] w (QI v w1)) (hdd : d + 1 ≤ dd) (hroom : cl ≤ mcX ∧ sl ≤ msX) (hcat : (st.map fun v => v.category).sum ≤ 8)
    (kk : Rw m X (pc + 3) ls (.int v :: st) w1 cl sl) : Rw m X pc ls (a4 :: a3 :: a2 :: a1 :: st) w cl sl :=
  R_callS (As := [a1, a2, a3, a4]) hC hR hd hj hl hM rfl hdd hroom hcat (fun r w2 hq => by obtain ⟨rfl, rfl⟩ := hq; exact kk)
theorem R_S4v (hC : Cx m X) {j : mi} {idx d dd mcX msX : Nat} {a1 a2 a3 a4 : Value} {w1 : aW} (hR : Rd X dd mcX msX) (hd : decode m.2.1 pc = .ok (.invokestatic idx, 3)) (hj : MS j 4) (hl : ML m.1.cls idx j) (hM : Mt j d 0 0 [a1, a2, a3, a4] w (QV w1)) (hdd : d + 1 ≤ dd) (hroom : cl ≤ mcX ∧ sl ≤ msX) (hcat : (st.map fun v => v.category).sum ≤ 8)
    (kk : Rw m X (pc + 3) ls st w1 cl sl) : Rw m X pc ls (a4 :: a3 :: a2 :: a1 :: st) w cl sl :=
  R_callS (As := [a1, a2, a3, a4]) hC hR hd hj hl hM rfl hdd hroom hcat (fun r w2 hq => by obtain ⟨rfl, rfl⟩ := hq; exact kk)
theorem R_S4r (hC : Cx m X) {j : mi} {idx d dd mcX msX : Nat} {a1 a2 a3 a4 : Value} {b : Nat} {w1 : aW} (hR : Rd X dd mcX msX) (hd : decode m.2.1 pc = .ok (.invokestatic idx, 3)) (hj : MS j 4) (hl : ML m.1.cls idx j) (hM : Mt j d 0 0 [a1, a2, a3, a4] w (QR b w1)) (hdd : d + 1 ≤ dd) (hroom : cl ≤ mcX ∧ sl ≤ msX) (hcat : (st.map fun v => v.category).sum ≤ 8)
    (kk : Rw m X (pc + 3) ls (.ref b :: st) w1 cl sl) : Rw m X pc ls (a4 :: a3 :: a2 :: a1 :: st) w cl sl :=
  R_callS (As := [a1, a2, a3, a4]) hC hR hd hj hl hM rfl hdd hroom hcat (fun r w2 hq => by obtain ⟨rfl, rfl⟩ := hq; exact kk)
theorem R_V4g (hC : Cx m X) {j : mi} {idx d dd mcX msX : Nat} {i ci N : Nat} {T : u_T} {fl : List (Nat × Nat)} {a1 a2 a3 a4 : Value} {Q : Option Value → aW → Prop} (hR : Rd X dd mcX msX) (hd : decode m.2.1 pc = .ok (.invokevirtual idx, 3)) (hj : MV j 4) (hl : ML m.1.cls idx j) (hL : LY i (2, ci, fl)) (hcl : vwCl[ci]? = some (j.1.cls, T, N)) (hM : Mt j d 0 0 (.ref i :: [a1, a2, a3, a4]) (wd σ x) Q) (hdd : d + 1 ≤ dd) (hroom : cl ≤ mcX ∧ sl ≤ msX) (hcat : (st.map fun v => v.category).sum ≤ 8)
    (kk : ∀ (r : Option Value) (w1 : aW), Q r w1 → Rw m X (pc + 3) ls (r.toList ++ st) w1 cl sl) : Rw m X pc ls (a4 :: a3 :: a2 :: a1 :: .ref i :: st) (wd σ x) cl sl :=
  R_callV (As := [a1, a2, a3, a4]) hC hR hd hj hl (wd_at hL) hcl hM rfl hdd hroom hcat kk
theorem R_V4i (hC : Cx m X) {j : mi} {idx d dd mcX msX : Nat} {i ci N : Nat} {T : u_T} {fl : List (Nat × Nat)} {a1 a2 a3 a4 : Value} {v : Int32} {w1 : aW} (hR : Rd X dd mcX msX) (hd : decode m.2.1 pc = .ok (.invokevirtual idx, 3)) (hj : MV j 4) (hl : ML m.1.cls idx j) (hL : LY i (2, ci, fl)) (hcl : vwCl[ci]? = some (j.1.cls, T, N)) (hM : Mt j d 0 0 (.ref i :: [a1, a2, a3, a4]) (wd σ x) (QI v w1)) (hdd : d + 1 ≤ dd) (hroom : cl ≤ mcX ∧ sl ≤ msX) (hcat : (st.map fun v => v.category).sum ≤ 8)
    (kk : Rw m X (pc + 3) ls (.int v :: st) w1 cl sl) : Rw m X pc ls (a4 :: a3 :: a2 :: a1 :: .ref i :: st) (wd σ x) cl sl :=
  R_callV (As := [a1, a2, a3, a4]) hC hR hd hj hl (wd_at hL) hcl hM rfl hdd hroom hcat (fun r w2 hq => by obtain ⟨rfl, rfl⟩ := hq; exact kk)
theorem R_V4v (hC : Cx m X) {j : mi} {idx d dd mcX msX : Nat} {i ci N : Nat} {T : u_T} {fl : List (Nat × Nat)} {a1 a2 a3 a4 : Value} {w1 : aW} (hR : Rd X dd mcX msX) (hd : decode m.2.1 pc = .ok (.invokevirtual idx, 3)) (hj : MV j 4) (hl : ML m.1.cls idx j) (hL : LY i (2, ci, fl)) (hcl : vwCl[ci]? = some (j.1.cls, T, N)) (hM : Mt j d 0 0 (.ref i :: [a1, a2, a3, a4]) (wd σ x) (QV w1)) (hdd : d + 1 ≤ dd) (hroom : cl ≤ mcX ∧ sl ≤ msX) (hcat : (st.map fun v => v.category).sum ≤ 8)
    (kk : Rw m X (pc + 3) ls st w1 cl sl) : Rw m X pc ls (a4 :: a3 :: a2 :: a1 :: .ref i :: st) (wd σ x) cl sl :=
  R_callV (As := [a1, a2, a3, a4]) hC hR hd hj hl (wd_at hL) hcl hM rfl hdd hroom hcat (fun r w2 hq => by obtain ⟨rfl, rfl⟩ := hq; exact kk)
theorem R_V4r (hC : Cx m X) {j : mi} {idx d dd mcX msX : Nat} {i ci N : Nat} {T : u_T} {fl : List (Nat × Nat)} {a1 a2 a3 a4 : Value} {b : Nat} {w1 : aW} (hR : Rd X dd mcX msX) (hd : decode m.2.1 pc = .ok (.invokevirtual idx, 3)) (hj : MV j 4) (hl : ML m.1.cls idx j) (hL : LY i (2, ci, fl)) (hcl : vwCl[ci]? = some (j.1.cls, T, N)) (hM : Mt j d 0 0 (.ref i :: [a1, a2, a3, a4]) (wd σ x) (QR b w1)) (hdd : d + 1 ≤ dd) (hroom : cl ≤ mcX ∧ sl ≤ msX) (hcat : (st.map fun v => v.category).sum ≤ 8)
    (kk : Rw m X (pc + 3) ls (.ref b :: st) w1 cl sl) : Rw m X pc ls (a4 :: a3 :: a2 :: a1 :: .ref i :: st) (wd σ x) cl sl :=
  R_callV (As := [a1, a2, a3, a4]) hC hR hd hj hl (wd_at hL) hcl hM rfl hdd hroom hcat (fun r w2 hq => by obtain ⟨rfl, rfl⟩ := hq; exact kk)
theorem R_S5g (hC : Cx m X) {j : mi} {idx d dd mcX msX : Nat} {a1 a2 a3 a4 a5 : Value} {Q : Option Value → aW → Prop} (hR : Rd X dd mcX msX) (hd : decode m.2.1 pc = .ok (.invokestatic idx, 3)) (hj : MS j 5) (hl : ML m.1.cls idx j) (hM : Mt j d 0 0 [a1, a2, a3, a4, a5] w Q) (hdd : d + 1 ≤ dd) (hroom : cl ≤ mcX ∧ sl ≤ msX) (hcat : (st.map fun v => v.category).sum ≤ 8)
    (kk : ∀ (r : Option Value) (w1 : aW), Q r w1 → Rw m X (pc + 3) ls (r.toList ++ st) w1 cl sl) : Rw m X pc ls (a5 :: a4 :: a3 :: a2 :: a1 :: st) w cl sl :=
  R_callS (As := [a1, a2, a3, a4, a5]) hC hR hd hj hl hM rfl hdd hroom hcat kk
theorem R_S5i (hC : Cx m X) {j : mi} {idx d dd mcX msX : Nat} {a1 a2 a3 a4 a5 : Value} {v : Int32} {w1 : aW} (hR : Rd X dd mcX msX) (hd : decode m.2.1 pc = .ok (.invokestatic idx, 3)) (hj : MS j 5) (hl : ML m.1.cls idx j) (hM : Mt j d 0 0 [a1, a2, a3, a4, a5] w (QI v w1)) (hdd : d + 1 ≤ dd) (hroom : cl ≤ mcX ∧ sl ≤ msX) (hcat : (st.map fun v => v.category).sum ≤ 8)
    (kk : Rw m X (pc + 3) ls (.int v :: st) w1 cl sl) : Rw m X pc ls (a5 :: a4 :: a3 :: a2 :: a1 :: st) w cl sl :=
  R_callS (As := [a1, a2, a3, a4, a5]) hC hR hd hj hl hM rfl hdd hroom hcat (fun r w2 hq => by obtain ⟨rfl, rfl⟩ := hq; exact kk)
theorem R_S5v (hC : Cx m X) {j : mi} {idx d dd mcX msX : Nat} {a1 a2 a3 a4 a5 : Value} {w1 : aW} (hR : Rd X dd mcX msX) (hd : decode m.2.1 pc = .ok (.invokestatic idx, 3)) (hj : MS j 5) (hl : ML m.1.cls idx j) (hM : Mt j d 0 0 [a1, a2, a3, a4, a5] w (QV w1)) (hdd : d + 1 ≤ dd) (hroom : cl ≤ mcX ∧ sl ≤ msX) (hcat : (st.map fun v => v.category).sum ≤ 8)
    (kk : Rw m X (pc + 3) ls st w1 cl sl) : Rw m X pc ls (a5 :: a4 :: a3 :: a2 :: a1 :: st) w cl sl :=
  R_callS (As := [a1, a2, a3, a4, a5]) hC hR hd hj hl hM rfl hdd hroom hcat (fun r w2 hq => by obtain ⟨rfl, rfl⟩ := hq; exact kk)
theorem R_S5r (hC : Cx m X) {j : mi} {idx d dd mcX msX : Nat} {a1 a2 a3 a4 a5 : Value} {b : Nat} {w1 : aW} (hR : Rd X dd mcX msX) (hd : decode m.2.1 pc = .ok (.invokestatic idx, 3)) (hj : MS j 5) (hl : ML m.1.cls idx j) (hM : Mt j d 0 0 [a1, a2, a3, a4, a5] w (QR b w1)) (hdd : d + 1 ≤ dd) (hroom : cl ≤ mcX ∧ sl ≤ msX) (hcat : (st.map fun v => v.category).sum ≤ 8)
    (kk : Rw m X (pc + 3) ls (.ref b :: st) w1 cl sl) : Rw m X pc ls (a5 :: a4 :: a3 :: a2 :: a1 :: st) w cl sl :=
  R_callS (As := [a1, a2, a3, a4, a5]) hC hR hd hj hl hM rfl hdd hroom hcat (fun r w2 hq => by obtain ⟨rfl, rfl⟩ := hq; exact kk)
theorem R_V5g (hC : Cx m X) {j : mi} {idx d dd mcX msX : Nat} {i ci N : Nat} {T : u_T} {fl : List (Nat × Nat)} {a1 a2 a3 a4 a5 : Value} {Q : Option Value → aW → Prop} (hR : Rd X dd mcX msX) (hd : decode m.2.1 pc = .ok (.invokevirtual idx, 3)) (hj : MV j 5) (hl : ML m.1.cls idx j) (hL : LY i (2, ci, fl)) (hcl : vwCl[ci]? = some (j.1.cls, T, N)) (hM : Mt j d 0 0 (.ref i :: [a1, a2, a3, a4, a5]) (wd σ x) Q) (hdd : d + 1 ≤ dd) (hroom : cl ≤ mcX ∧ sl ≤ msX) (hcat : (st.map fun v => v.category).sum ≤ 8)
    (kk : ∀ (r : Option Value) (w1 : aW), Q r w1 → Rw m X (pc + 3) ls (r.toList ++ st) w1 cl sl) : Rw m X pc ls (a5 :: a4 :: a3 :: a2 :: a1 :: .ref i :: st) (wd σ x) cl sl :=
  R_callV (As := [a1, a2, a3, a4, a5]) hC hR hd hj hl (wd_at hL) hcl hM rfl hdd hroom hcat kk
theorem R_V5i (hC : Cx m X) {j : mi} {idx d dd mcX msX : Nat} {i ci N : Nat} {T : u_T} {fl : List (Nat × Nat)} {a1 a2 a3 a4 a5 : Value} {v : Int32} {w1 : aW} (hR : Rd X dd mcX msX) (hd : decode m.2.1 pc = .ok (.invokevirtual idx, 3)) (hj : MV j 5) (hl : ML m.1.cls idx j) (hL : LY i (2, ci, fl)) (hcl : vwCl[ci]? = some (j.1.cls, T, N)) (hM : Mt j d 0 0 (.ref i :: [a1, a2, a3, a4, a5]) (wd σ x) (QI v w1)) (hdd : d + 1 ≤ dd) (hroom : cl ≤ mcX ∧ sl ≤ msX) (hcat : (st.map fun v => v.category).sum ≤ 8)
    (kk : Rw m X (pc + 3) ls (.int v :: st) w1 cl sl) : Rw m X pc ls (a5 :: a4 :: a3 :: a2 :: a1 :: .ref i :: st) (wd σ x) cl sl :=
  R_callV (As := [a1, a2, a3, a4, a5]) hC hR hd hj hl (wd_at hL) hcl hM rfl hdd hroom hcat (fun r w2 hq => by obtain ⟨rfl, rfl⟩ := hq; exact kk)
theorem R_V5v (hC : Cx m X) {j : mi} {idx d dd mcX msX : Nat} {i ci N : Nat} {T : u_T} {fl : List (Nat × Nat)} {a1 a2 a3 a4 a5 : Value} {w1 : aW} (hR : Rd X dd mcX msX) (hd : decode m.2.1 pc = .ok (.invokevirtual idx, 3)) (hj : MV j 5) (hl : ML m.1.cls idx j) (hL : LY i (2, ci, fl)) (hcl : vwCl[ci]? = some (j.1.cls, T, N)) (hM : Mt j d 0 0 (.ref i :: [a1, a2, a3, a4, a5]) (wd σ x) (QV w1)) (hdd : d + 1 ≤ dd) (hroom : cl ≤ mcX ∧ sl ≤ msX) (hcat : (st.map fun v => v.category).sum ≤ 8)
    (kk : Rw m X (pc + 3) ls st w1 cl sl) : Rw m X pc ls (a5 :: a4 :: a3 :: a2 :: a1 :: .ref i :: st) (wd σ x) cl sl :=
  R_callV (As := [a1, a2, a3, a4, a5]) hC hR hd hj hl (wd_at hL) hcl hM rfl hdd hroom hcat (fun r w2 hq => by obtain ⟨rfl, rfl⟩ := hq; exact kk)
theorem R_V5r (hC : Cx m X) {j : mi} {idx d dd mcX msX : Nat} {i ci N : Nat} {T : u_T} {fl : List (Nat × Nat)} {a1 a2 a3 a4 a5 : Value} {b : Nat} {w1 : aW} (hR : Rd X dd mcX msX) (hd : decode m.2.1 pc = .ok (.invokevirtual idx, 3)) (hj : MV j 5) (hl : ML m.1.cls idx j) (hL : LY i (2, ci, fl)) (hcl : vwCl[ci]? = some (j.1.cls, T, N)) (hM : Mt j d 0 0 (.ref i :: [a1, a2, a3, a4, a5]) (wd σ x) (QR b w1)) (hdd : d + 1 ≤ dd) (hroom : cl ≤ mcX ∧ sl ≤ msX) (hcat : (st.map fun v => v.category).sum ≤ 8)
    (kk : Rw m X (pc + 3) ls (.ref b :: st) w1 cl sl) : Rw m X pc ls (a5 :: a4 :: a3 :: a2 :: a1 :: .ref i :: st) (wd σ x) cl sl :=
  R_callV (As := [a1, a2, a3, a4, a5]) hC hR hd hj hl (wd_at hL) hcl hM rfl hdd hroom hcat (fun r w2 hq => by obtain ⟨rfl, rfl⟩ := hq; exact kk)
theorem R_S6g (hC : Cx m X) {j : mi} {idx d dd mcX msX : Nat} {a1 a2 a3 a4 a5 a6 : Value} {Q : Option Value → aW → Prop} (hR : Rd X dd mcX msX) (hd : decode m.2.1 pc = .ok (.invokestatic idx, 3)) (hj : MS j 6) (hl : ML m.1.cls idx j) (hM : Mt j d 0 0 [a1, a2, a3, a4, a5, a6] w Q) (hdd : d + 1 ≤ dd) (hroom : cl ≤ mcX ∧ sl ≤ msX) (hcat : (st.map fun v => v.category).sum ≤ 8)
    (kk : ∀ (r : Option Value) (w1 : aW), Q r w1 → Rw m X (pc + 3) ls (r.toList ++ st) w1 cl sl) : Rw m X pc ls (a6 :: a5 :: a4 :: a3 :: a2 :: a1 :: st) w cl sl :=
  R_callS (As := [a1, a2, a3, a4, a5, a6]) hC hR hd hj hl hM rfl hdd hroom hcat kk
theorem R_S6i (hC : Cx m X) {j : mi} {idx d dd mcX msX : Nat} {a1 a2 a3 a4 a5 a6 : Value} {v : Int32} {w1 : aW} (hR : Rd X dd mcX msX) (hd : decode m.2.1 pc = .ok (.invokestatic idx, 3)) (hj : MS j 6) (hl : ML m.1.cls idx j) (hM : Mt j d 0 0 [a1, a2, a3, a4, a5, a6] w (QI v w1)) (hdd : d + 1 ≤ dd) (hroom : cl ≤ mcX ∧ sl ≤ msX) (hcat : (st.map fun v => v.category).sum ≤ 8)
    (kk : Rw m X (pc + 3) ls (.int v :: st) w1 cl sl) : Rw m X pc ls (a6 :: a5 :: a4 :: a3 :: a2 :: a1 :: st) w cl sl :=
  R_callS (As := [a1, a2, a3, a4, a5, a6]) hC hR hd hj hl hM rfl hdd hroom hcat (fun r w2 hq => by obtain ⟨rfl, rfl⟩ := hq; exact kk)
theorem R_S6v (hC : Cx m X) {j : mi} {idx d dd mcX msX : Nat} {a1 a2 a3 a4 a5 a6 : Value} {w1 : aW} (hR : Rd X dd mcX msX) (hd : decode m.2.1 pc = .ok (.invokestatic idx, 3)) (hj : MS j 6) (hl : ML m.1.cls idx j) (hM : Mt j d 0 0 [a1, a2, a3, a4, a5, a6] w (QV w1)) (hdd : d + 1 ≤ dd) (hroom : cl ≤ mcX ∧ sl ≤ msX) (hcat : (st.map fun v => v.category).sum ≤ 8)
    (kk : Rw m X (pc + 3) ls st w1 cl sl) : Rw m X pc ls (a6 :: a5 :: a4 :: a3 :: a2 :: a1 :: st) w cl sl :=
  R_callS (As := [a1, a2, a3, a4, a5, a6]) hC hR hd hj hl hM rfl hdd hroom hcat (fun r w2 hq => by obtain ⟨rfl, rfl⟩ := hq; exact kk)
theorem R_S6r (hC : Cx m X) {j : mi} {idx d dd mcX msX : Nat} {a1 a2 a3 a4 a5 a6 : Value} {b : Nat} {w1 : aW} (hR : Rd X dd mcX msX) (hd : decode m.2.1 pc = .ok (.invokestatic idx, 3)) (hj : MS j 6) (hl : ML m.1.cls idx j) (hM : Mt j d 0 0 [a1, a2, a3, a4, a5, a6] w (QR b w1)) (hdd : d + 1 ≤ dd) (hroom : cl ≤ mcX ∧ sl ≤ msX) (hcat : (st.map fun v => v.category).sum ≤ 8)
    (kk : Rw m X (pc + 3) ls (.ref b :: st) w1 cl sl) : Rw m X pc ls (a6 :: a5 :: a4 :: a3 :: a2 :: a1 :: st) w cl sl :=
  R_callS (As := [a1, a2, a3, a4, a5, a6]) hC hR hd hj hl hM rfl hdd hroom hcat (fun r w2 hq => by obtain ⟨rfl, rfl⟩ := hq; exact kk)
theorem R_V6g (hC : Cx m X) {j : mi} {idx d dd mcX msX : Nat} {i ci N : Nat} {T : u_T} {fl : List (Nat × Nat)} {a1 a2 a3 a4 a5 a6 : Value} {Q : Option Value → aW → Prop} (hR : Rd X dd mcX msX) (hd : decode m.2.1 pc = .ok (.invokevirtual idx, 3)) (hj : MV j 6) (hl : ML m.1.cls idx j) (hL : LY i (2, ci, fl)) (hcl : vwCl[ci]? = some (j.1.cls, T, N)) (hM : Mt j d 0 0 (.ref i :: [a1, a2, a3, a4, a5, a6]) (wd σ x) Q) (hdd : d + 1 ≤ dd) (hroom : cl ≤ mcX ∧ sl ≤ msX) (hcat : (st.map fun v => v.category).sum ≤ 8)
    (kk : ∀ (r : Option Value) (w1 : aW), Q r w1 → Rw m X (pc + 3) ls (r.toList ++ st) w1 cl sl) : Rw m X pc ls (a6 :: a5 :: a4 :: a3 :: a2 :: a1 :: .ref i :: st) (wd σ x) cl sl :=
  R_callV (As := [a1, a2, a3, a4, a5, a6]) hC hR hd hj hl (wd_at hL) hcl hM rfl hdd hroom hcat kk
theorem R_V6i (hC : Cx m X) {j : mi} {idx d dd mcX msX : Nat} {i ci N : Nat} {T : u_T} {fl : List (Nat × Nat)} {a1 a2 a3 a4 a5 a6 : Value} {v : Int32} {w1 : aW} (hR : Rd X dd mcX msX) (hd : decode m.2.1 pc = .ok (.invokevirtual idx, 3)) (hj : MV j 6) (hl : ML m.1.cls idx j) (hL : LY i (2, ci, fl)) (hcl : vwCl[ci]? = some (j.1.cls, T, N)) (hM : Mt j d 0 0 (.ref i :: [a1, a2, a3, a4, a5, a6]) (wd σ x) (QI v w1)) (hdd : d + 1 ≤ dd) (hroom : cl ≤ mcX ∧ sl ≤ msX) (hcat : (st.map fun v => v.category).sum ≤ 8)
    (kk : Rw m X (pc + 3) ls (.int v :: st) w1 cl sl) : Rw m X pc ls (a6 :: a5 :: a4 :: a3 :: a2 :: a1 :: .ref i :: st) (wd σ x) cl sl :=
  R_callV (As := [a1, a2, a3, a4, a5, a6]) hC hR hd hj hl (wd_at hL) hcl hM rfl hdd hroom hcat (fun r w2 hq => by obtain ⟨rfl, rfl⟩ := hq; exact kk)
theorem R_V6v (hC : Cx m X) {j : mi} {idx d dd mcX msX : Nat} {i ci N : Nat} {T : u_T} {fl : List (Nat × Nat)} {a1 a2 a3 a4 a5 a6 : Value} {w1 : aW} (hR : Rd X dd mcX msX) (hd : decode m.2.1 pc = .ok (.invokevirtual idx, 3)) (hj : MV j 6) (hl : ML m.1.cls idx j) (hL : LY i (2, ci, fl)) (hcl : vwCl[ci]? = some (j.1.cls, T, N)) (hM : Mt j d 0 0 (.ref i :: [a1, a2, a3, a4, a5, a6]) (wd σ x) (QV w1)) (hdd : d + 1 ≤ dd) (hroom : cl ≤ mcX ∧ sl ≤ msX) (hcat : (st.map fun v => v.category).sum ≤ 8)
    (kk : Rw m X (pc + 3) ls st w1 cl sl) : Rw m X pc ls (a6 :: a5 :: a4 :: a3 :: a2 :: a1 :: .ref i :: st) (wd σ x) cl sl :=
  R_callV (As := [a1, a2, a3, a4, a5, a6]) hC hR hd hj hl (wd_at hL) hcl hM rfl hdd hroom hcat (fun r w2 hq => by obtain ⟨rfl, rfl⟩ := hq; exact kk)
theorem R_V6r (hC : Cx m X) {j : mi} {idx d dd mcX msX : Nat} {i ci N : Nat} {T : u_T} {fl : List (Nat × Nat)} {a1 a2 a3 a4 a5 a6 : Value} {b : Nat} {w1 : aW} (hR : Rd X dd mcX msX) (hd : decode m.2.1 pc = .ok (.invokevirtual idx, 3)) (hj : MV j 6) (hl : ML m.1.cls idx j) (hL : LY i (2, ci, fl)) (hcl : vwCl[ci]? = some (j.1.cls, T, N)) (hM : Mt j d 0 0 (.ref i :: [a1, a2, a3, a4, a5, a6]) (wd σ x) (QR b w1)) (hdd : d + 1 ≤ dd) (hroom : cl ≤ mcX ∧ sl ≤ msX) (hcat : (st.map fun v => v.category).sum ≤ 8)
    (kk : Rw m X (pc + 3) ls (.ref b :: st) w1 cl sl) : Rw m X pc ls (a6 :: a5 :: a4 :: a3 :: a2 :: a1 :: .ref i :: st) (wd σ x) cl sl :=
  R_callV (As := [a1, a2, a3, a4, a5, a6]) hC hR hd hj hl (wd_at hL) hcl hM rfl hdd hroom hcat (fun r w2 hq => by obtain ⟨rfl, rfl⟩ := hq; exact kk)
end CALLN
theorem up_loop {P : Nat → Prop} (n : Nat) (hn : P n) (hs : ∀ i, i < n → P (i + 1) → P i) : ∀ i, i ≤ n → P i := by
  intro i hi
  obtain ⟨k, rfl⟩ : ∃ k, n = i + k := ⟨n - i, by omega⟩
  clear hi
  induction k generalizing i with
  | zero => exact hn
  | succ k ih => exact hs i (by omega) (ih (i + 1) (by rw [show i + 1 + k = i + (k + 1) by omega]; exact hn) (fun j hj hp => hs j (by omega) hp))
theorem inc1 (i : Nat) : nI i + Int32.ofInt 1 = nI (i + 1) := (nI_succ i).symm
end
section
theorem R_top {m : mi} {X : aX} {pc : Nat} {ls : List (Option Value)} {st : List Value} {w : aW} {cl sl : Nat} {x y : Int32} (h : x = y) (k : Rw m X pc ls (.int y :: st) w cl sl) : Rw m X pc ls (.int x :: st) w cl sl := h ▸ k
/-- bits below i -/
def pcn (s : Nat) : Nat → Nat
  | 0 => 0
  | i + 1 => pcn s i + (if s.testBit i then 1 else 0)
def pc6 (s : Nat) : Nat := pcn s 6
theorem bit_at : ∀ s, s < 64 → ∀ i, i < 6 → (nI s >>> (nI i &&& 31)) &&& 1 = (if s.testBit i then 1 else 0) := by decide +kernel
theorem pcn_step {s i : Nat} (hs : s < 64) (hi : i < 6) : nI (pcn s i) + ((nI s >>> (nI i &&& 31)) &&& 1) = nI (pcn s (i + 1)) := by
  rw [bit_at s hs i hi, pcn]
  split
  · exact (nI_succ _).symm
  · simp
theorem dX11_isIn_0 : decode cX11_isIn 0 = .ok (.lload_n 0, 1) := by decide +kernel
theorem dX11_isIn_1 : decode cX11_isIn 1 = .ok (.lload_n 2, 1) := by decide +kernel
theorem dX11_isIn_2 : decode cX11_isIn 2 = .ok (.lcmp, 1) := by decide +kernel
theorem dX11_isIn_3 : decode cX11_isIn 3 = .ok (.ifCond .lt 14, 3) := by decide +kernel
theorem dX11_isIn_6 : decode cX11_isIn 6 = .ok (.lload_n 0, 1) := by decide +kernel
theorem dX11_isIn_7 : decode cX11_isIn 7 = .ok (.lload 4, 2) := by decide +kernel
theorem dX11_isIn_9 : decode cX11_isIn 9 = .ok (.lcmp, 1) := by decide +kernel
theorem dX11_isIn_10 : decode cX11_isIn 10 = .ok (.ifCond .gt 7, 3) := by decide +kernel
theorem dX11_isIn_13 : decode cX11_isIn 13 = .ok (.iconst 1, 1) := by decide +kernel
theorem dX11_isIn_14 : decode cX11_isIn 14 = .ok (.goto 4, 3) := by decide +kernel
theorem dX11_isIn_17 : decode cX11_isIn 17 = .ok (.iconst 0, 1) := by decide +kernel
theorem dX11_isIn_18 : decode cX11_isIn 18 = .ok (.ireturn, 1) := by decide +kernel
theorem dX11_has_0 : decode cX11_has 0 = .ok (.iload_n 0, 1) := by decide +kernel
theorem dX11_has_1 : decode cX11_has 1 = .ok (.iload_n 1, 1) := by decide +kernel
theorem dX11_has_2 : decode cX11_has 2 = .ok (.ishr, 1) := by decide +kernel
theorem dX11_has_3 : decode cX11_has 3 = .ok (.iconst 1, 1) := by decide +kernel
theorem dX11_has_4 : decode cX11_has 4 = .ok (.iand, 1) := by decide +kernel
theorem dX11_has_5 : decode cX11_has 5 = .ok (.iconst 1, 1) := by decide +kernel
theorem dX11_has_6 : decode cX11_has 6 = .ok (.if_icmp .ne 7, 3) := by decide +kernel
theorem dX11_has_9 : decode cX11_has 9 = .ok (.iconst 1, 1) := by decide +kernel
theorem dX11_has_10 : decode cX11_has 10 = .ok (.goto 4, 3) := by decide +kernel
theorem dX11_has_13 : decode cX11_has 13 = .ok (.iconst 0, 1) := by decide +kernel
theorem dX11_has_14 : decode cX11_has 14 = .ok (.ireturn, 1) := by decide +kernel
theorem dX11_sizeOf_0 : decode cX11_sizeOf 0 = .ok (.iconst 0, 1) := by decide +kernel
theorem dX11_sizeOf_1 : decode cX11_sizeOf 1 = .ok (.istore_n 1, 1) := by decide +kernel
theorem dX11_sizeOf_2 : decode cX11_sizeOf 2 = .ok (.iconst 0, 1) := by decide +kernel
theorem dX11_sizeOf_3 : decode cX11_sizeOf 3 = .ok (.istore_n 2, 1) := by decide +kernel
theorem dX11_sizeOf_4 : decode cX11_sizeOf 4 = .ok (.iload_n 2, 1) := by decide +kernel
theorem dX11_sizeOf_5 : decode cX11_sizeOf 5 = .ok (.bipush 6, 2) := by decide +kernel
theorem dX11_sizeOf_7 : decode cX11_sizeOf 7 = .ok (.if_icmp .ge 17, 3) := by decide +kernel
theorem dX11_sizeOf_10 : decode cX11_sizeOf 10 = .ok (.iload_n 1, 1) := by decide +kernel
theorem dX11_sizeOf_11 : decode cX11_sizeOf 11 = .ok (.iload_n 0, 1) := by decide +kernel
theorem dX11_sizeOf_12 : decode cX11_sizeOf 12 = .ok (.iload_n 2, 1) := by decide +kernel
theorem dX11_sizeOf_13 : decode cX11_sizeOf 13 = .ok (.ishr, 1) := by decide +kernel
theorem dX11_sizeOf_14 : decode cX11_sizeOf 14 = .ok (.iconst 1, 1) := by decide +kernel
theorem dX11_sizeOf_15 : decode cX11_sizeOf 15 = .ok (.iand, 1) := by decide +kernel
theorem dX11_sizeOf_16 : decode cX11_sizeOf 16 = .ok (.iadd, 1) := by decide +kernel
theorem dX11_sizeOf_17 : decode cX11_sizeOf 17 = .ok (.istore_n 1, 1) := by decide +kernel
theorem dX11_sizeOf_18 : decode cX11_sizeOf 18 = .ok (.iinc 2 1, 3) := by decide +kernel
theorem dX11_sizeOf_21 : decode cX11_sizeOf 21 = .ok (.goto (-17), 3) := by decide +kernel
theorem dX11_sizeOf_24 : decode cX11_sizeOf 24 = .ok (.iload_n 1, 1) := by decide +kernel
theorem dX11_sizeOf_25 : decode cX11_sizeOf 25 = .ok (.ireturn, 1) := by decide +kernel
theorem dX11_copy_0 : decode cX11_copy 0 = .ok (.iconst 0, 1) := by decide +kernel
theorem dX11_copy_1 : decode cX11_copy 1 = .ok (.istore_n 2, 1) := by decide +kernel
theorem dX11_copy_2 : decode cX11_copy 2 = .ok (.iload_n 2, 1) := by decide +kernel
theorem dX11_copy_3 : decode cX11_copy 3 = .ok (.bipush 38, 2) := by decide +kernel
theorem dX11_copy_5 : decode cX11_copy 5 = .ok (.if_icmp .ge 15, 3) := by decide +kernel
theorem dX11_copy_8 : decode cX11_copy 8 = .ok (.aload_n 1, 1) := by decide +kernel
theorem dX11_copy_9 : decode cX11_copy 9 = .ok (.iload_n 2, 1) := by decide +kernel
theorem dX11_copy_10 : decode cX11_copy 10 = .ok (.aload_n 0, 1) := by decide +kernel
theorem dX11_copy_11 : decode cX11_copy 11 = .ok (.iload_n 2, 1) := by decide +kernel
theorem dX11_copy_12 : decode cX11_copy 12 = .ok (.iaload, 1) := by decide +kernel
theorem dX11_copy_13 : decode cX11_copy 13 = .ok (.iastore, 1) := by decide +kernel
theorem dX11_copy_14 : decode cX11_copy 14 = .ok (.iinc 2 1, 3) := by decide +kernel
theorem dX11_copy_17 : decode cX11_copy 17 = .ok (.goto (-15), 3) := by decide +kernel
theorem dX11_copy_20 : decode cX11_copy 20 = .ok (.return_, 1) := by decide +kernel
theorem dX11_isCell_0 : decode cX11_isCell 0 = .ok (.iload_n 2, 1) := by decide +kernel
theorem dX11_isCell_1 : decode cX11_isCell 1 = .ok (.ifCond .lt 27, 3) := by decide +kernel
theorem dX11_isCell_4 : decode cX11_isCell 4 = .ok (.iload_n 2, 1) := by decide +kernel
theorem dX11_isCell_5 : decode cX11_isCell 5 = .ok (.aload_n 1, 1) := by decide +kernel
theorem dX11_isCell_6 : decode cX11_isCell 6 = .ok (.bipush 36, 2) := by decide +kernel
theorem dX11_isCell_8 : decode cX11_isCell 8 = .ok (.iaload, 1) := by decide +kernel
theorem dX11_isCell_9 : decode cX11_isCell 9 = .ok (.if_icmp .ge 19, 3) := by decide +kernel
theorem dX11_isCell_12 : decode cX11_isCell 12 = .ok (.iload_n 3, 1) := by decide +kernel
theorem dX11_isCell_13 : decode cX11_isCell 13 = .ok (.ifCond .lt 15, 3) := by decide +kernel
theorem dX11_isCell_16 : decode cX11_isCell 16 = .ok (.iload_n 3, 1) := by decide +kernel
theorem dX11_isCell_17 : decode cX11_isCell 17 = .ok (.aload_n 1, 1) := by decide +kernel
theorem dX11_isCell_18 : decode cX11_isCell 18 = .ok (.bipush 37, 2) := by decide +kernel
theorem dX11_isCell_20 : decode cX11_isCell 20 = .ok (.iaload, 1) := by decide +kernel
theorem dX11_isCell_21 : decode cX11_isCell 21 = .ok (.if_icmp .ge 7, 3) := by decide +kernel
theorem dX11_isCell_24 : decode cX11_isCell 24 = .ok (.iconst 1, 1) := by decide +kernel
theorem dX11_isCell_25 : decode cX11_isCell 25 = .ok (.goto 4, 3) := by decide +kernel
theorem dX11_isCell_28 : decode cX11_isCell 28 = .ok (.iconst 0, 1) := by decide +kernel
theorem dX11_isCell_29 : decode cX11_isCell 29 = .ok (.ireturn, 1) := by decide +kernel
theorem s_sizeOf (s : Nat) (hs : s < 64) (w : aW) : Mt mX11_sizeOf 0 0 0 [.int (nI s)] w (QI (nI (pc6 s)) w) := by
  refine Mt.of MI_X11_sizeOf (Nat.le_of_ble_eq_true rfl) (fun X hC hR hT => ?_)
  refine R_iconst (v := 0) hC dX11_sizeOf_0 (by decide) (R_istore_n (i := 1) hC dX11_sizeOf_1 rfl (by decide) rfl (R_iconst (v := 0) hC dX11_sizeOf_2 (by decide) (R_istore_n (i := 2) hC dX11_sizeOf_3 rfl (by decide) rfl ?_)))
  refine up_loop (P := fun i => Rw mX11_sizeOf X 4 [some (.int (nI s)), some (.int (nI (pcn s i))), some (.int (nI i))] [] w 0 0) 6 ?_ ?_ 0 (by decide)
  · refine R_iload_n (i := 2) hC dX11_sizeOf_4 rfl rfl (R_bipush (v := 6) hC dX11_sizeOf_5 (by decide) ?_)
    refine R_icmp_ge hC 24 dX11_sizeOf_7 (by decide) (fun _ => ?_) (fun h => absurd (by decide) h)
    refine R_iload_n (i := 1) hC dX11_sizeOf_24 rfl rfl ?_
    exact R_iret hC hT dX11_sizeOf_25 rfl ⟨rfl, rfl⟩
  · intro i hi ih
    refine R_iload_n (i := 2) hC dX11_sizeOf_4 rfl rfl (R_bipush (v := 6) hC dX11_sizeOf_5 (by decide) ?_)
    refine R_icmp_ge hC 24 dX11_sizeOf_7 (by decide) (fun h => absurd h (nI_ge (b := 6) hi (by decide))) (fun _ => ?_)
    refine R_iload_n (i := 1) hC dX11_sizeOf_10 rfl rfl (R_iload_n (i := 0) hC dX11_sizeOf_11 rfl rfl (R_iload_n (i := 2) hC dX11_sizeOf_12 rfl rfl (R_ishr hC dX11_sizeOf_13 (R_iconst (v := 1) hC dX11_sizeOf_14 (by decide) (R_iand hC dX11_sizeOf_15 ?_)))))
    refine R_iadd hC dX11_sizeOf_16 ?_
    refine R_top (pcn_step hs hi) ?_
    refine R_istore_n (i := 1) hC dX11_sizeOf_17 rfl (by decide) rfl (R_iinc hC dX11_sizeOf_18 rfl (inc1 _) (by decide) rfl (R_goto hC 4 dX11_sizeOf_21 (by decide) ?_))
    exact ih
theorem s_has (s i : Nat) (hs : s < 64) (hi : i < 6) (w : aW) : Mt mX11_has 0 0 0 [.int (nI s), .int (nI i)] w (QI (if s.testBit i then 1 else 0) w) := by
  refine Mt.of MI_X11_has (Nat.le_of_ble_eq_true rfl) (fun X hC hR hT => ?_)
  refine R_iload_n (i := 0) hC dX11_has_0 rfl rfl (R_iload_n (i := 1) hC dX11_has_1 rfl rfl (R_ishr hC dX11_has_2 (R_iconst (v := 1) hC dX11_has_3 (by decide) (R_iand hC dX11_has_4 ?_))))
  refine R_top (bit_at s hs i hi) ?_
  by_cases hb : s.testBit i = true
  · rw [if_pos hb]
    refine R_iconst (v := 1) hC dX11_has_5 (by decide) ?_
    refine R_icmp_ne hC 13 dX11_has_6 (by decide) (fun h => absurd (by decide) h) (fun _ => ?_)
    refine R_iconst (v := 1) hC dX11_has_9 (by decide) (R_goto hC 14 dX11_has_10 (by decide) ?_)
    exact R_zret hC hT dX11_has_14 rfl (by decide) ⟨by rw [if_pos hb], rfl⟩
  · rw [if_neg hb]
    refine R_iconst (v := 1) hC dX11_has_5 (by decide) ?_
    refine R_icmp_ne hC 13 dX11_has_6 (by decide) (fun _ => ?_) (fun h => absurd h (by decide))
    refine R_iconst (v := 0) hC dX11_has_13 (by decide) ?_
    exact R_zret hC hT dX11_has_14 rfl (by decide) ⟨by rw [if_neg hb], rfl⟩
theorem cmp_lt {x y : Int64} : lg_cmp x y < 0 ↔ x.toInt < y.toInt := (lg_cmp_lt x y).trans Int64.lt_iff_toInt_lt
theorem cmp_gt {x y : Int64} : 0 < lg_cmp x y ↔ y.toInt < x.toInt := (lg_cmp_gt x y).trans Int64.lt_iff_toInt_lt
theorem s_isIn (v a b : Int64) (w : aW) : Mt mX11_isIn 0 0 0 [.long v, .long a, .long b] w (QI (if a.toInt ≤ v.toInt ∧ v.toInt ≤ b.toInt then 1 else 0) w) := by
  refine Mt.of MI_X11_isIn (Nat.le_of_ble_eq_true rfl) (fun X hC hR hT => ?_)
  refine R_lload_n (i := 0) hC dX11_isIn_0 rfl rfl (R_lload_n (i := 2) hC dX11_isIn_1 rfl rfl (R_lcmp hC dX11_isIn_2 ?_))
  refine R_if_lt hC 17 dX11_isIn_3 (by decide) (fun h => ?_) (fun h => ?_)
  · have h := cmp_lt.mp h
    refine R_iconst (v := 0) hC dX11_isIn_17 (by decide) ?_
    exact R_zret hC hT dX11_isIn_18 rfl (by decide) ⟨by rw [if_neg (by omega)], rfl⟩
  · have h := mt cmp_lt.mpr h
    refine R_lload_n (i := 0) hC dX11_isIn_6 rfl rfl (R_lload hC dX11_isIn_7 rfl (R_lcmp hC dX11_isIn_9 ?_))
    refine R_if_gt hC 17 dX11_isIn_10 (by decide) (fun h2 => ?_) (fun h2 => ?_)
    · have h2 := cmp_gt.mp h2
      refine R_iconst (v := 0) hC dX11_isIn_17 (by decide) ?_
      exact R_zret hC hT dX11_isIn_18 rfl (by decide) ⟨by rw [if_neg (by omega)], rfl⟩
    · have h2 := mt cmp_gt.mpr h2
      refine R_iconst (v := 1) hC dX11_isIn_13 (by decide) (R_goto hC 18 dX11_isIn_14 (by decide) ?_)
      exact R_zret hC hT dX11_isIn_18 rfl (by decide) ⟨by rw [if_pos (by omega)], rfl⟩
/-- isIn of an int -/
theorem s_isInI (v : Int32) (a b : Int64) (w : aW) : Mt mX11_isIn 0 0 0 [.long v.toInt64, .long a, .long b] w (QI (if a.toInt ≤ v.toInt ∧ v.toInt ≤ b.toInt then 1 else 0) w) := by
  have h := s_isIn v.toInt64 a b w
  rwa [Int32.toInt_toInt64] at h
theorem R_wd {m : mi} {X : aX} {pc : Nat} {ls : List (Option Value)} {st : List Value} {σ τ : sg} {x : aW} {cl sl : Nat} (h : σ = τ) (k : Rw m X pc ls st (wd τ x) cl sl) : Rw m X pc ls st (wd σ x) cl sl := h ▸ k
theorem sA_sA (σ : sg) (i : Nat) (f g : Nat → Int32) : sA (sA σ i f) i g = sA σ i g := by
  unfold sA
  refine Prod.ext rfl (Prod.ext rfl (funext fun a => ?_))
  show (if a = i then g else if a = i then f else σ.2.2 a) = if a = i then g else σ.2.2 a
  split <;> rfl
theorem sA_eq (σ : sg) (i : Nat) (f : Nat → Int32) : (sA σ i f).2.2 i = f := if_pos rfl
theorem sA_ne {σ : sg} {i a : Nat} {f : Nat → Int32} (h : a ≠ i) : (sA σ i f).2.2 a = σ.2.2 a := if_neg h
theorem sA_self (σ : sg) (i : Nat) : sA σ i (σ.2.2 i) = σ := by
  unfold sA
  refine Prod.ext rfl (Prod.ext rfl (funext fun a => ?_))
  show (if a = i then σ.2.2 i else σ.2.2 a) = σ.2.2 a
  split
  · rename_i h; rw [h]
  · rfl
def cpy (f g : Nat → Int32) (n : Nat) : Nat → Int32 := fun k => if k < n then f k else g k
theorem cpy_0 (f g : Nat → Int32) : cpy f g 0 = g := by funext k; simp [cpy]
theorem cpy_s (f g : Nat → Int32) (n : Nat) : upd (cpy f g n) n (f n) = cpy f g (n + 1) := by
  funext k
  unfold upd cpy
  by_cases h : k = n
  · subst h; simp
  · rw [if_neg h]
    by_cases h2 : k < n
    · rw [if_pos h2, if_pos (by omega)]
    · rw [if_neg h2, if_neg (by omega)]
theorem s_copy (σ : sg) (x : aW) (i j : Nat) (hi : LY i (0, 38, [])) (hj : LY j (0, 38, [])) (hne : i ≠ j) : Mt mX11_copy 0 0 0 [.ref i, .ref j] (wd σ x) (QV (wd (sA σ j (cpy (σ.2.2 i) (σ.2.2 j) 38)) x)) := by
  refine Mt.of MI_X11_copy (Nat.le_of_ble_eq_true rfl) (fun X hC hR hT => ?_)
  refine R_iconst (v := 0) hC dX11_copy_0 (by decide) (R_istore_n (i := 2) hC dX11_copy_1 rfl (by decide) rfl ?_)
  refine R_wd (τ := sA σ j (cpy (σ.2.2 i) (σ.2.2 j) 0)) (by rw [cpy_0, sA_self]) ?_
  refine up_loop (P := fun n => Rw mX11_copy X 2 [some (.ref i), some (.ref j), some (.int (nI n))] [] (wd (sA σ j (cpy (σ.2.2 i) (σ.2.2 j) n)) x) 0 0) 38 ?_ ?_ 0 (by decide)
  · refine R_iload_n (i := 2) hC dX11_copy_2 rfl rfl (R_bipush (v := 38) hC dX11_copy_3 (by decide) ?_)
    refine R_icmp_ge hC 20 dX11_copy_5 (by decide) (fun _ => ?_) (fun h => absurd (by decide) h)
    exact R_vret hC hT dX11_copy_20 rfl ⟨rfl, rfl⟩
  · intro n hn ih
    refine R_iload_n (i := 2) hC dX11_copy_2 rfl rfl (R_bipush (v := 38) hC dX11_copy_3 (by decide) ?_)
    refine R_icmp_ge hC 20 dX11_copy_5 (by decide) (fun h => absurd h (nI_ge (b := 38) hn (by decide))) (fun _ => ?_)
    refine R_aload_n (i := 1) hC dX11_copy_8 rfl rfl (R_iload_n (i := 2) hC dX11_copy_9 rfl rfl (R_aload_n (i := 0) hC dX11_copy_10 rfl rfl (R_iload_n (i := 2) hC dX11_copy_11 rfl rfl (R_aI hC dX11_copy_12 hi _ rfl (by omega) (by decide) ?_))))
    refine R_top (y := σ.2.2 i n) (by rw [sA_ne hne]) ?_
    refine R_sI hC dX11_copy_13 hj _ rfl (by omega) (by decide) ?_
    refine R_wd (by rw [sA_eq, sA_sA, cpy_s]) ?_
    refine R_iinc hC dX11_copy_14 rfl (inc1 _) (by decide) rfl (R_goto hC 2 dX11_copy_17 (by decide) ?_)
    exact ih
/-- a row of 38: rows at 36, columns at 37 -/
def inT (f : Nat → Int32) (r c : Int32) : Prop := 0 ≤ r.toInt ∧ r.toInt < (f 36).toInt ∧ 0 ≤ c.toInt ∧ c.toInt < (f 37).toInt
theorem i32_ge {a b : Int32} : a ≤ b ↔ a.toInt ≤ b.toInt := Int32.le_iff_toInt_le
theorem i32_lt {a b : Int32} : a < b ↔ a.toInt < b.toInt := Int32.lt_iff_toInt_lt
noncomputable def b2i (p : Prop) : Int32 := by classical exact if p then 1 else 0
theorem b2i_t {p : Prop} (h : p) : b2i p = 1 := by unfold b2i; simp [h]
theorem b2i_f {p : Prop} (h : ¬ p) : b2i p = 0 := by unfold b2i; simp [h]
theorem s_isCell (σ : sg) (x : aW) (t : Nat) (ht : LY t (0, 38, [])) (r c : Int32) : Mt mX11_isCell 0 0 0 [.ref i_M, .ref t, .int r, .int c] (wd σ x) (QI (b2i (inT (σ.2.2 t) r c)) (wd σ x)) := by
  refine Mt.of MI_X11_isCell (Nat.le_of_ble_eq_true rfl) (fun X hC hR hT => ?_)
  refine R_iload_n (i := 2) hC dX11_isCell_0 rfl rfl ?_
  refine R_if_lt hC 28 dX11_isCell_1 (by decide) (fun h => ?_) (fun h => ?_)
  · have h := i32_lt.mp h
    refine R_iconst (v := 0) hC dX11_isCell_28 (by decide) ?_
    exact R_zret hC hT dX11_isCell_29 rfl (by decide) ⟨by rw [b2i_f]; intro q; have := q.1; simp at h; omega, rfl⟩
  · have h1 := mt i32_lt.mpr h
    refine R_iload_n (i := 2) hC dX11_isCell_4 rfl rfl (R_aload_n (i := 1) hC dX11_isCell_5 rfl rfl (R_bipush (v := 36) hC dX11_isCell_6 (by decide) (R_aI hC dX11_isCell_8 ht 36 rfl (by decide) (by decide) ?_)))
    refine R_icmp_ge hC 28 dX11_isCell_9 (by decide) (fun h => ?_) (fun h => ?_)
    · have h := i32_ge.mp h
      refine R_iconst (v := 0) hC dX11_isCell_28 (by decide) ?_
      exact R_zret hC hT dX11_isCell_29 rfl (by decide) ⟨by rw [b2i_f]; intro q; have := q.2.1; omega, rfl⟩
    · have h2 := mt i32_ge.mpr h
      refine R_iload_n (i := 3) hC dX11_isCell_12 rfl rfl ?_
      refine R_if_lt hC 28 dX11_isCell_13 (by decide) (fun h => ?_) (fun h => ?_)
      · have h := i32_lt.mp h
        refine R_iconst (v := 0) hC dX11_isCell_28 (by decide) ?_
        exact R_zret hC hT dX11_isCell_29 rfl (by decide) ⟨by rw [b2i_f]; intro q; have := q.2.2.1; simp at h; omega, rfl⟩
      · have h3 := mt i32_lt.mpr h
        refine R_iload_n (i := 3) hC dX11_isCell_16 rfl rfl (R_aload_n (i := 1) hC dX11_isCell_17 rfl rfl (R_bipush (v := 37) hC dX11_isCell_18 (by decide) (R_aI hC dX11_isCell_20 ht 37 rfl (by decide) (by decide) ?_)))
        refine R_icmp_ge hC 28 dX11_isCell_21 (by decide) (fun h => ?_) (fun h => ?_)
        · have h := i32_ge.mp h
          refine R_iconst (v := 0) hC dX11_isCell_28 (by decide) ?_
          exact R_zret hC hT dX11_isCell_29 rfl (by decide) ⟨by rw [b2i_f]; intro q; have := q.2.2.2; omega, rfl⟩
        · have h4 := mt i32_ge.mpr h
          refine R_iconst (v := 1) hC dX11_isCell_24 (by decide) (R_goto hC 29 dX11_isCell_25 (by decide) ?_)
          exact R_zret hC hT dX11_isCell_29 rfl (by decide) ⟨by rw [b2i_t]; simp at h1 h3; exact ⟨h1, by omega, h3, by omega⟩, rfl⟩
end
section
theorem sG_eq (σ : sg) (i k : Nat) (v : Int32) : (sG σ i k v).1 i k = v := by simp [sG]
theorem sG_nk {σ : sg} {i k a b : Nat} {v : Int32} (h : b ≠ k) : (sG σ i k v).1 a b = σ.1 a b := by
  show (if a = i then (if b = k then v else σ.1 a b) else σ.1 a b) = _
  rw [if_neg h]; split <;> rfl
theorem sG_ni {σ : sg} {i k a b : Nat} {v : Int32} (h : a ≠ i) : (sG σ i k v).1 a b = σ.1 a b := if_neg h
theorem b2i_ne {p : Prop} (h : ¬ b2i p = 0) : p := Classical.byContradiction fun q => h (b2i_f q)
theorem b2i_0 {p : Prop} (h : b2i p = 0) : ¬ p := fun q => by rw [b2i_t q] at h; exact absurd h (by decide)
theorem b2i_z (p : Prop) : narrow .boolean (.int (b2i p)) = .int (b2i p) := by
  by_cases h : p
  · rw [b2i_t h]; decide
  · rw [b2i_f h]; decide
theorem i32_nI {k : Int32} (h : 0 ≤ k.toInt) : ∃ j : Nat, k = nI j ∧ (j : Int) = k.toInt ∧ j < 2 ^ 31 := by
  refine ⟨k.toInt.toNat, ?_, by omega, ?_⟩
  · apply Int32.toInt_inj.mp
    have h2 : k.toInt.toNat < 2 ^ 31 := by have := Int32.toInt_lt k; omega
    rw [nI_toInt h2]; omega
  · have := Int32.toInt_lt k; omega
theorem ite1 {p : Prop} {_ : Decidable p} (h : ¬ (if p then (1 : Int32) else 0) = 0) : p := Decidable.byContradiction fun q => h (if_neg q)
theorem ite0 {p : Prop} {_ : Decidable p} (h : (if p then (1 : Int32) else 0) = 0) : ¬ p := fun q => by rw [if_pos q] at h; exact absurd h (by decide)
theorem s_isInZ (v : Int32) (a b : Int64) (A B : Int) (ha : a.toInt = A) (hb : b.toInt = B) (w : aW) : Mt mX11_isIn 0 0 0 [.long v.toInt64, .long a, .long b] w (QI (if A ≤ v.toInt ∧ v.toInt ≤ B then 1 else 0) w) := by
  subst ha; subst hb; exact s_isInI v a b w
theorem dX11_thrown_0 : decode cX11_thrown 0 = .ok (.aload_n 0, 1) := by decide +kernel
theorem dX11_thrown_1 : decode cX11_thrown 1 = .ok (.getfield 83, 3) := by decide +kernel
theorem dX11_thrown_4 : decode cX11_thrown 4 = .ok (.ireturn, 1) := by decide +kernel
theorem dX11_end_0 : decode cX11_end 0 = .ok (.aload_n 0, 1) := by decide +kernel
theorem dX11_end_1 : decode cX11_end 1 = .ok (.iconst 0, 1) := by decide +kernel
theorem dX11_end_2 : decode cX11_end 2 = .ok (.putfield 83, 3) := by decide +kernel
theorem dX11_end_5 : decode cX11_end 5 = .ok (.iload_n 1, 1) := by decide +kernel
theorem dX11_end_6 : decode cX11_end 6 = .ok (.ifCond .lt 11, 3) := by decide +kernel
theorem dX11_end_9 : decode cX11_end 9 = .ok (.iload_n 1, 1) := by decide +kernel
theorem dX11_end_10 : decode cX11_end 10 = .ok (.aload_n 0, 1) := by decide +kernel
theorem dX11_end_11 : decode cX11_end 11 = .ok (.getfield 87, 3) := by decide +kernel
theorem dX11_end_14 : decode cX11_end 14 = .ok (.if_icmp .le 5, 3) := by decide +kernel
theorem dX11_end_17 : decode cX11_end 17 = .ok (.iconst 0, 1) := by decide +kernel
theorem dX11_end_18 : decode cX11_end 18 = .ok (.ireturn, 1) := by decide +kernel
theorem dX11_end_19 : decode cX11_end 19 = .ok (.aload_n 0, 1) := by decide +kernel
theorem dX11_end_20 : decode cX11_end 20 = .ok (.iload_n 1, 1) := by decide +kernel
theorem dX11_end_21 : decode cX11_end 21 = .ok (.putfield 87, 3) := by decide +kernel
theorem dX11_end_24 : decode cX11_end 24 = .ok (.iconst 1, 1) := by decide +kernel
theorem dX11_end_25 : decode cX11_end 25 = .ok (.ireturn, 1) := by decide +kernel
theorem dX11_status_0 : decode cX11_status 0 = .ok (.aload_n 0, 1) := by decide +kernel
theorem dX11_status_1 : decode cX11_status 1 = .ok (.iconst 0, 1) := by decide +kernel
theorem dX11_status_2 : decode cX11_status 2 = .ok (.putfield 83, 3) := by decide +kernel
theorem dX11_status_5 : decode cX11_status 5 = .ok (.iload_n 1, 1) := by decide +kernel
theorem dX11_status_6 : decode cX11_status 6 = .ok (.i2l, 1) := by decide +kernel
theorem dX11_status_7 : decode cX11_status 7 = .ok (.lconst 0, 1) := by decide +kernel
theorem dX11_status_8 : decode cX11_status 8 = .ok (.ldc2_w 231, 3) := by decide +kernel
theorem dX11_status_11 : decode cX11_status 11 = .ok (.invokestatic 140, 3) := by decide +kernel
theorem dX11_status_14 : decode cX11_status 14 = .ok (.ifCond .eq 12, 3) := by decide +kernel
theorem dX11_status_17 : decode cX11_status 17 = .ok (.aload_n 0, 1) := by decide +kernel
theorem dX11_status_18 : decode cX11_status 18 = .ok (.getfield 32, 3) := by decide +kernel
theorem dX11_status_21 : decode cX11_status 21 = .ok (.iload_n 1, 1) := by decide +kernel
theorem dX11_status_22 : decode cX11_status 22 = .ok (.iaload, 1) := by decide +kernel
theorem dX11_status_23 : decode cX11_status 23 = .ok (.goto 4, 3) := by decide +kernel
theorem dX11_status_26 : decode cX11_status 26 = .ok (.iconst (-1), 1) := by decide +kernel
theorem dX11_status_27 : decode cX11_status 27 = .ok (.ireturn, 1) := by decide +kernel
theorem dX11_isKept_0 : decode cX11_isKept 0 = .ok (.iload_n 1, 1) := by decide +kernel
theorem dX11_isKept_1 : decode cX11_isKept 1 = .ok (.ifCond .lt 15, 3) := by decide +kernel
theorem dX11_isKept_4 : decode cX11_isKept 4 = .ok (.iload_n 1, 1) := by decide +kernel
theorem dX11_isKept_5 : decode cX11_isKept 5 = .ok (.aload_n 0, 1) := by decide +kernel
theorem dX11_isKept_6 : decode cX11_isKept 6 = .ok (.getfield 189, 3) := by decide +kernel
theorem dX11_isKept_9 : decode cX11_isKept 9 = .ok (.if_icmp .ge 7, 3) := by decide +kernel
theorem dX11_isKept_12 : decode cX11_isKept 12 = .ok (.iconst 1, 1) := by decide +kernel
theorem dX11_isKept_13 : decode cX11_isKept 13 = .ok (.goto 4, 3) := by decide +kernel
theorem dX11_isKept_16 : decode cX11_isKept 16 = .ok (.iconst 0, 1) := by decide +kernel
theorem dX11_isKept_17 : decode cX11_isKept 17 = .ok (.ireturn, 1) := by decide +kernel
theorem dX11_isPlan_0 : decode cX11_isPlan 0 = .ok (.iload_n 1, 1) := by decide +kernel
theorem dX11_isPlan_1 : decode cX11_isPlan 1 = .ok (.ifCond .lt 15, 3) := by decide +kernel
theorem dX11_isPlan_4 : decode cX11_isPlan 4 = .ok (.iload_n 1, 1) := by decide +kernel
theorem dX11_isPlan_5 : decode cX11_isPlan 5 = .ok (.aload_n 0, 1) := by decide +kernel
theorem dX11_isPlan_6 : decode cX11_isPlan 6 = .ok (.getfield 150, 3) := by decide +kernel
theorem dX11_isPlan_9 : decode cX11_isPlan 9 = .ok (.if_icmp .ge 7, 3) := by decide +kernel
theorem dX11_isPlan_12 : decode cX11_isPlan 12 = .ok (.iconst 1, 1) := by decide +kernel
theorem dX11_isPlan_13 : decode cX11_isPlan 13 = .ok (.goto 4, 3) := by decide +kernel
theorem dX11_isPlan_16 : decode cX11_isPlan 16 = .ok (.iconst 0, 1) := by decide +kernel
theorem dX11_isPlan_17 : decode cX11_isPlan 17 = .ok (.ireturn, 1) := by decide +kernel
theorem dX11_keptAt_0 : decode cX11_keptAt 0 = .ok (.aload_n 0, 1) := by decide +kernel
theorem dX11_keptAt_1 : decode cX11_keptAt 1 = .ok (.getfield 23, 3) := by decide +kernel
theorem dX11_keptAt_4 : decode cX11_keptAt 4 = .ok (.bipush 38, 2) := by decide +kernel
theorem dX11_keptAt_6 : decode cX11_keptAt 6 = .ok (.iload_n 1, 1) := by decide +kernel
theorem dX11_keptAt_7 : decode cX11_keptAt 7 = .ok (.imul, 1) := by decide +kernel
theorem dX11_keptAt_8 : decode cX11_keptAt 8 = .ok (.bipush 6, 2) := by decide +kernel
theorem dX11_keptAt_10 : decode cX11_keptAt 10 = .ok (.iload_n 2, 1) := by decide +kernel
theorem dX11_keptAt_11 : decode cX11_keptAt 11 = .ok (.imul, 1) := by decide +kernel
theorem dX11_keptAt_12 : decode cX11_keptAt 12 = .ok (.iadd, 1) := by decide +kernel
theorem dX11_keptAt_13 : decode cX11_keptAt 13 = .ok (.iload_n 3, 1) := by decide +kernel
theorem dX11_keptAt_14 : decode cX11_keptAt 14 = .ok (.iadd, 1) := by decide +kernel
theorem dX11_keptAt_15 : decode cX11_keptAt 15 = .ok (.iaload, 1) := by decide +kernel
theorem dX11_keptAt_16 : decode cX11_keptAt 16 = .ok (.ireturn, 1) := by decide +kernel
theorem dX11_kept_0 : decode cX11_kept 0 = .ok (.aload_n 0, 1) := by decide +kernel
theorem dX11_kept_1 : decode cX11_kept 1 = .ok (.iconst 0, 1) := by decide +kernel
theorem dX11_kept_2 : decode cX11_kept 2 = .ok (.putfield 83, 3) := by decide +kernel
theorem dX11_kept_5 : decode cX11_kept 5 = .ok (.aload_n 0, 1) := by decide +kernel
theorem dX11_kept_6 : decode cX11_kept 6 = .ok (.iload_n 1, 1) := by decide +kernel
theorem dX11_kept_7 : decode cX11_kept 7 = .ok (.invokevirtual 192, 3) := by decide +kernel
theorem dX11_kept_10 : decode cX11_kept 10 = .ok (.ifCond .eq 53, 3) := by decide +kernel
theorem dX11_kept_13 : decode cX11_kept 13 = .ok (.iload_n 2, 1) := by decide +kernel
theorem dX11_kept_14 : decode cX11_kept 14 = .ok (.ifCond .lt 49, 3) := by decide +kernel
theorem dX11_kept_17 : decode cX11_kept 17 = .ok (.iload_n 2, 1) := by decide +kernel
theorem dX11_kept_18 : decode cX11_kept 18 = .ok (.aload_n 0, 1) := by decide +kernel
theorem dX11_kept_19 : decode cX11_kept 19 = .ok (.getfield 23, 3) := by decide +kernel
theorem dX11_kept_22 : decode cX11_kept 22 = .ok (.bipush 38, 2) := by decide +kernel
theorem dX11_kept_24 : decode cX11_kept 24 = .ok (.iload_n 1, 1) := by decide +kernel
theorem dX11_kept_25 : decode cX11_kept 25 = .ok (.imul, 1) := by decide +kernel
theorem dX11_kept_26 : decode cX11_kept 26 = .ok (.bipush 36, 2) := by decide +kernel
theorem dX11_kept_28 : decode cX11_kept 28 = .ok (.iadd, 1) := by decide +kernel
theorem dX11_kept_29 : decode cX11_kept 29 = .ok (.iaload, 1) := by decide +kernel
theorem dX11_kept_30 : decode cX11_kept 30 = .ok (.if_icmp .ge 33, 3) := by decide +kernel
theorem dX11_kept_33 : decode cX11_kept 33 = .ok (.iload_n 3, 1) := by decide +kernel
theorem dX11_kept_34 : decode cX11_kept 34 = .ok (.ifCond .lt 29, 3) := by decide +kernel
theorem dX11_kept_37 : decode cX11_kept 37 = .ok (.iload_n 3, 1) := by decide +kernel
theorem dX11_kept_38 : decode cX11_kept 38 = .ok (.aload_n 0, 1) := by decide +kernel
theorem dX11_kept_39 : decode cX11_kept 39 = .ok (.getfield 23, 3) := by decide +kernel
theorem dX11_kept_42 : decode cX11_kept 42 = .ok (.bipush 38, 2) := by decide +kernel
theorem dX11_kept_44 : decode cX11_kept 44 = .ok (.iload_n 1, 1) := by decide +kernel
theorem dX11_kept_45 : decode cX11_kept 45 = .ok (.imul, 1) := by decide +kernel
theorem dX11_kept_46 : decode cX11_kept 46 = .ok (.bipush 37, 2) := by decide +kernel
theorem dX11_kept_48 : decode cX11_kept 48 = .ok (.iadd, 1) := by decide +kernel
theorem dX11_kept_49 : decode cX11_kept 49 = .ok (.iaload, 1) := by decide +kernel
theorem dX11_kept_50 : decode cX11_kept 50 = .ok (.if_icmp .ge 13, 3) := by decide +kernel
theorem dX11_kept_53 : decode cX11_kept 53 = .ok (.aload_n 0, 1) := by decide +kernel
theorem dX11_kept_54 : decode cX11_kept 54 = .ok (.iload_n 1, 1) := by decide +kernel
theorem dX11_kept_55 : decode cX11_kept 55 = .ok (.iload_n 2, 1) := by decide +kernel
theorem dX11_kept_56 : decode cX11_kept 56 = .ok (.iload_n 3, 1) := by decide +kernel
theorem dX11_kept_57 : decode cX11_kept 57 = .ok (.invokevirtual 196, 3) := by decide +kernel
theorem dX11_kept_60 : decode cX11_kept 60 = .ok (.goto 5, 3) := by decide +kernel
theorem dX11_kept_63 : decode cX11_kept 63 = .ok (.ldc 133, 2) := by decide +kernel
theorem dX11_kept_65 : decode cX11_kept 65 = .ok (.ireturn, 1) := by decide +kernel
theorem dX11_refused_0 : decode cX11_refused 0 = .ok (.aload_n 0, 1) := by decide +kernel
theorem dX11_refused_1 : decode cX11_refused 1 = .ok (.getfield 32, 3) := by decide +kernel
theorem dX11_refused_4 : decode cX11_refused 4 = .ok (.iload_n 1, 1) := by decide +kernel
theorem dX11_refused_5 : decode cX11_refused 5 = .ok (.dup2, 1) := by decide +kernel
theorem dX11_refused_6 : decode cX11_refused 6 = .ok (.iaload, 1) := by decide +kernel
theorem dX11_refused_7 : decode cX11_refused 7 = .ok (.iconst 1, 1) := by decide +kernel
theorem dX11_refused_8 : decode cX11_refused 8 = .ok (.iadd, 1) := by decide +kernel
theorem dX11_refused_9 : decode cX11_refused 9 = .ok (.iastore, 1) := by decide +kernel
theorem dX11_refused_10 : decode cX11_refused 10 = .ok (.iconst (-1), 1) := by decide +kernel
theorem dX11_refused_11 : decode cX11_refused 11 = .ok (.ireturn, 1) := by decide +kernel
theorem dX11_entry_0 : decode cX11_entry 0 = .ok (.aload_n 0, 1) := by decide +kernel
theorem dX11_entry_1 : decode cX11_entry 1 = .ok (.aload_n 0, 1) := by decide +kernel
theorem dX11_entry_2 : decode cX11_entry 2 = .ok (.aload_n 0, 1) := by decide +kernel
theorem dX11_entry_3 : decode cX11_entry 3 = .ok (.getfield 13, 3) := by decide +kernel
theorem dX11_entry_6 : decode cX11_entry 6 = .ok (.iload_n 1, 1) := by decide +kernel
theorem dX11_entry_7 : decode cX11_entry 7 = .ok (.iload_n 2, 1) := by decide +kernel
theorem dX11_entry_8 : decode cX11_entry 8 = .ok (.invokevirtual 158, 3) := by decide +kernel
theorem dX11_entry_11 : decode cX11_entry 11 = .ok (.ifCond .eq 7, 3) := by decide +kernel
theorem dX11_entry_14 : decode cX11_entry 14 = .ok (.iconst 0, 1) := by decide +kernel
theorem dX11_entry_15 : decode cX11_entry 15 = .ok (.goto 4, 3) := by decide +kernel
theorem dX11_entry_18 : decode cX11_entry 18 = .ok (.iconst 1, 1) := by decide +kernel
theorem dX11_entry_19 : decode cX11_entry 19 = .ok (.putfield 83, 3) := by decide +kernel
theorem dX11_entry_22 : decode cX11_entry 22 = .ok (.aload_n 0, 1) := by decide +kernel
theorem dX11_entry_23 : decode cX11_entry 23 = .ok (.getfield 83, 3) := by decide +kernel
theorem dX11_entry_26 : decode cX11_entry 26 = .ok (.ifCond .ne 17, 3) := by decide +kernel
theorem dX11_entry_29 : decode cX11_entry 29 = .ok (.aload_n 0, 1) := by decide +kernel
theorem dX11_entry_30 : decode cX11_entry 30 = .ok (.getfield 13, 3) := by decide +kernel
theorem dX11_entry_33 : decode cX11_entry 33 = .ok (.bipush 6, 2) := by decide +kernel
theorem dX11_entry_35 : decode cX11_entry 35 = .ok (.iload_n 1, 1) := by decide +kernel
theorem dX11_entry_36 : decode cX11_entry 36 = .ok (.imul, 1) := by decide +kernel
theorem dX11_entry_37 : decode cX11_entry 37 = .ok (.iload_n 2, 1) := by decide +kernel
theorem dX11_entry_38 : decode cX11_entry 38 = .ok (.iadd, 1) := by decide +kernel
theorem dX11_entry_39 : decode cX11_entry 39 = .ok (.iaload, 1) := by decide +kernel
theorem dX11_entry_40 : decode cX11_entry 40 = .ok (.goto 4, 3) := by decide +kernel
theorem dX11_entry_43 : decode cX11_entry 43 = .ok (.iconst 0, 1) := by decide +kernel
theorem dX11_entry_44 : decode cX11_entry 44 = .ok (.ireturn, 1) := by decide +kernel
theorem s_thrown (σ : sg) (x : aW) : Mt mX11_thrown 0 0 0 [.ref i_M] (wd σ x) (QI (σ.1 i_M 0) (wd σ x)) := by
  refine Mt.of MI_X11_thrown (Nat.le_of_ble_eq_true rfl) (fun X hC hR hT => ?_)
  refine R_aload_n (i := 0) hC dX11_thrown_0 rfl rfl (R_gI hC dX11_thrown_1 fl_X11_83 L_M rfl ?_)
  exact R_iret hC hT dX11_thrown_4 rfl ⟨rfl, rfl⟩
theorem s_isKept (σ : sg) (x : aW) (k : Int32) : Mt mX11_isKept 0 0 0 [.ref i_M, .int k] (wd σ x) (QI (b2i (0 ≤ k.toInt ∧ k.toInt < (σ.1 i_M 12).toInt)) (wd σ x)) := by
  refine Mt.of MI_X11_isKept (Nat.le_of_ble_eq_true rfl) (fun X hC hR hT => ?_)
  refine R_iload_n (i := 1) hC dX11_isKept_0 rfl rfl ?_
  refine R_if_lt hC 16 dX11_isKept_1 (by decide) (fun h1 => ?_) (fun h1 => ?_)
  · refine R_iconst (v := 0) hC dX11_isKept_16 (by decide) ?_
    exact R_zret hC hT dX11_isKept_17 rfl (by decide) ⟨by simp only [i32_ge, i32_lt, Int32.toInt_zero] at *; first | (rw [b2i_t (by omega)]; done) | (rw [b2i_f (by omega)]; done), rfl⟩
  · refine R_iload_n (i := 1) hC dX11_isKept_4 rfl rfl (R_aload_n (i := 0) hC dX11_isKept_5 rfl rfl (R_gI hC dX11_isKept_6 fl_X11_189 L_M rfl ?_))
    refine R_icmp_ge hC 16 dX11_isKept_9 (by decide) (fun h9 => ?_) (fun h9 => ?_)
    · refine R_iconst (v := 0) hC dX11_isKept_16 (by decide) ?_
      exact R_zret hC hT dX11_isKept_17 rfl (by decide) ⟨by simp only [i32_ge, i32_lt, Int32.toInt_zero] at *; first | (rw [b2i_t (by omega)]; done) | (rw [b2i_f (by omega)]; done), rfl⟩
    · refine R_iconst (v := 1) hC dX11_isKept_12 (by decide) (R_goto hC 17 dX11_isKept_13 (by decide) ?_)
      exact R_zret hC hT dX11_isKept_17 rfl (by decide) ⟨by simp only [i32_ge, i32_lt, Int32.toInt_zero] at *; first | (rw [b2i_t (by omega)]; done) | (rw [b2i_f (by omega)]; done), rfl⟩
theorem s_isPlan (σ : sg) (x : aW) (k : Int32) : Mt mX11_isPlan 0 0 0 [.ref i_M, .int k] (wd σ x) (QI (b2i (0 ≤ k.toInt ∧ k.toInt < (σ.1 i_M 13).toInt)) (wd σ x)) := by
  refine Mt.of MI_X11_isPlan (Nat.le_of_ble_eq_true rfl) (fun X hC hR hT => ?_)
  refine R_iload_n (i := 1) hC dX11_isPlan_0 rfl rfl ?_
  refine R_if_lt hC 16 dX11_isPlan_1 (by decide) (fun h1 => ?_) (fun h1 => ?_)
  · refine R_iconst (v := 0) hC dX11_isPlan_16 (by decide) ?_
    exact R_zret hC hT dX11_isPlan_17 rfl (by decide) ⟨by simp only [i32_ge, i32_lt, Int32.toInt_zero] at *; first | (rw [b2i_t (by omega)]; done) | (rw [b2i_f (by omega)]; done), rfl⟩
  · refine R_iload_n (i := 1) hC dX11_isPlan_4 rfl rfl (R_aload_n (i := 0) hC dX11_isPlan_5 rfl rfl (R_gI hC dX11_isPlan_6 fl_X11_150 L_M rfl ?_))
    refine R_icmp_ge hC 16 dX11_isPlan_9 (by decide) (fun h9 => ?_) (fun h9 => ?_)
    · refine R_iconst (v := 0) hC dX11_isPlan_16 (by decide) ?_
      exact R_zret hC hT dX11_isPlan_17 rfl (by decide) ⟨by simp only [i32_ge, i32_lt, Int32.toInt_zero] at *; first | (rw [b2i_t (by omega)]; done) | (rw [b2i_f (by omega)]; done), rfl⟩
    · refine R_iconst (v := 1) hC dX11_isPlan_12 (by decide) (R_goto hC 17 dX11_isPlan_13 (by decide) ?_)
      exact R_zret hC hT dX11_isPlan_17 rfl (by decide) ⟨by simp only [i32_ge, i32_lt, Int32.toInt_zero] at *; first | (rw [b2i_t (by omega)]; done) | (rw [b2i_f (by omega)]; done), rfl⟩
theorem s_end (σ : sg) (x : aW) (n : Int32) : Mt mX11_end 0 0 0 [.ref i_M, .int n] (wd σ x) (fun r w => (0 ≤ n.toInt ∧ n.toInt ≤ (σ.1 i_M 2).toInt ∧ r = some (.int 1) ∧ w = wd (sG (sG σ i_M 0 0) i_M 2 n) x) ∨ (¬ (0 ≤ n.toInt ∧ n.toInt ≤ (σ.1 i_M 2).toInt) ∧ r = some (.int 0) ∧ w = wd (sG σ i_M 0 0) x)) := by
  refine Mt.of MI_X11_end (Nat.le_of_ble_eq_true rfl) (fun X hC hR hT => ?_)
  refine R_aload_n (i := 0) hC dX11_end_0 rfl rfl (R_iconst (v := 0) hC dX11_end_1 (by decide) (R_pI hC dX11_end_2 fl_X11_83 L_M rfl (R_iload_n (i := 1) hC dX11_end_5 rfl rfl ?_)))
  refine R_if_lt hC 17 dX11_end_6 (by decide) (fun h6 => ?_) (fun h6 => ?_)
  · refine R_iconst (v := 0) hC dX11_end_17 (by decide) ?_
    exact R_zret hC hT dX11_end_18 rfl (by decide) (Or.inr ⟨by simp only [i32_ge, i32_lt, Int32.toInt_zero, sG_nk (show (2 : Nat) ≠ 0 by decide)] at *; omega, rfl, rfl⟩)
  · refine R_iload_n (i := 1) hC dX11_end_9 rfl rfl (R_aload_n (i := 0) hC dX11_end_10 rfl rfl (R_gI hC dX11_end_11 fl_X11_87 L_M rfl ?_))
    refine R_icmp_le hC 19 dX11_end_14 (by decide) (fun h14 => ?_) (fun h14 => ?_)
    · refine R_aload_n (i := 0) hC dX11_end_19 rfl rfl (R_iload_n (i := 1) hC dX11_end_20 rfl rfl (R_pI hC dX11_end_21 fl_X11_87 L_M rfl (R_iconst (v := 1) hC dX11_end_24 (by decide) ?_)))
      exact R_zret hC hT dX11_end_25 rfl (by decide) (Or.inl ⟨by simp only [i32_ge, i32_lt, Int32.toInt_zero] at *; omega, by simp only [i32_ge, i32_lt, Int32.toInt_zero, sG_nk (show (2 : Nat) ≠ 0 by decide)] at *; omega, rfl, rfl⟩)
    · refine R_iconst (v := 0) hC dX11_end_17 (by decide) ?_
      exact R_zret hC hT dX11_end_18 rfl (by decide) (Or.inr ⟨by simp only [i32_ge, i32_lt, Int32.toInt_zero, sG_nk (show (2 : Nat) ≠ 0 by decide)] at *; omega, rfl, rfl⟩)
theorem s_status (σ : sg) (x : aW) (k : Int32) : Mt mX11_status 1 0 0 [.ref i_M, .int k] (wd σ x) (fun r w => w = wd (sG σ i_M 0 0) x ∧ ((∃ j : Nat, j < 4 ∧ k = nI j ∧ r = some (.int (σ.2.2 i_m_status j))) ∨ (¬ (0 ≤ k.toInt ∧ k.toInt ≤ 3) ∧ r = some (.int (-1))))) := by
  refine Mt.of MI_X11_status (Nat.le_of_ble_eq_true rfl) (fun X hC hR hT => ?_)
  refine R_aload_n (i := 0) hC dX11_status_0 rfl rfl (R_iconst (v := 0) hC dX11_status_1 (by decide) (R_pI hC dX11_status_2 fl_X11_83 L_M rfl (R_iload_n (i := 1) hC dX11_status_5 rfl rfl (R_i2l hC dX11_status_6 (R_lconst (v := 0) hC dX11_status_7 (by decide) (R_ldc2 hC dX11_status_8 kc_X11_231 ?_))))))
  refine R_S3i hC hR dX11_status_11 MS_X11_isIn ml_X11_140 (s_isInZ k 0 3 0 3 (by decide) (by decide) _) (by decide) ⟨by decide, by decide⟩ (Nat.le_of_ble_eq_true rfl) ?_
  refine R_if_eq hC 26 dX11_status_14 (by decide) (fun h14 => ?_) (fun h14 => ?_)
  · have hn := ite0 h14
    refine R_iconst (v := (-1)) hC dX11_status_26 (by decide) ?_
    exact R_iret hC hT dX11_status_27 rfl ⟨rfl, by first | exact Or.inl ⟨j, hj4, rfl, rfl⟩ | exact Or.inr ⟨hn, rfl⟩⟩
  · obtain ⟨j, rfl, hj, -⟩ := i32_nI (ite1 h14).1
    have hj4 : j < 4 := by have := (ite1 h14).2; omega
    refine R_aload_n (i := 0) hC dX11_status_17 rfl rfl (R_gR hC dX11_status_18 fl_X11_32 L_M rfl (R_iload_n (i := 1) hC dX11_status_21 rfl rfl (R_aI hC dX11_status_22 L_m_status j rfl hj4 (by decide) (R_goto hC 27 dX11_status_23 (by decide) ?_))))
    exact R_iret hC hT dX11_status_27 rfl ⟨rfl, by first | exact Or.inl ⟨j, hj4, rfl, rfl⟩ | exact Or.inr ⟨hn, rfl⟩⟩
theorem s_refused (σ : sg) (x : aW) (j : Nat) (hj : j < 4) : Mt mX11_refused 0 0 0 [.ref i_M, .int (nI j)] (wd σ x) (QI (-1) (wd (sA σ i_m_status (upd (σ.2.2 i_m_status) j (σ.2.2 i_m_status j + 1))) x)) := by
  refine Mt.of MI_X11_refused (Nat.le_of_ble_eq_true rfl) (fun X hC hR hT => ?_)
  refine R_aload_n (i := 0) hC dX11_refused_0 rfl rfl (R_gR hC dX11_refused_1 fl_X11_32 L_M rfl (R_iload_n (i := 1) hC dX11_refused_4 rfl rfl (R_dup2 hC dX11_refused_5 rfl rfl (R_aI hC dX11_refused_6 L_m_status _ rfl (by omega) (by decide) (R_iconst (v := 1) hC dX11_refused_7 (by decide) (R_iadd hC dX11_refused_8 (R_sI hC dX11_refused_9 L_m_status _ rfl (by omega) (by decide) ?_)))))))
  refine R_iconst (v := (-1)) hC dX11_refused_10 (by decide) ?_
  exact R_iret hC hT dX11_refused_11 rfl ⟨rfl, rfl⟩
theorem n6 (r c : Nat) : (6 : Int32) * nI r + nI c = nI (6 * r + c) := by
  rw [show (6 : Int32) = nI 6 from rfl, pk_mul, nI_add]
theorem n38 (k c : Nat) : (38 : Int32) * nI k + nI c = nI (38 * k + c) := by
  rw [show (38 : Int32) = nI 38 from rfl, pk_mul, nI_add]
theorem s_keptAt (σ : sg) (x : aW) (k r c : Nat) (hk : k < 4) (hr : 6 * r + c < 38) : Mt mX11_keptAt 0 0 0 [.ref i_M, .int (nI k), .int (nI r), .int (nI c)] (wd σ x) (QI (σ.2.2 i_m_kept (38 * k + (6 * r + c))) (wd σ x)) := by
  refine Mt.of MI_X11_keptAt (Nat.le_of_ble_eq_true rfl) (fun X hC hR hT => ?_)
  refine R_aload_n (i := 0) hC dX11_keptAt_0 rfl rfl (R_gR hC dX11_keptAt_1 fl_X11_23 L_M rfl (R_bipush (v := 38) hC dX11_keptAt_4 (by decide) (R_iload_n (i := 1) hC dX11_keptAt_6 rfl rfl (R_imul hC dX11_keptAt_7 (R_bipush (v := 6) hC dX11_keptAt_8 (by decide) (R_iload_n (i := 2) hC dX11_keptAt_10 rfl rfl (R_imul hC dX11_keptAt_11 ?_)))))))
  refine R_iadd hC dX11_keptAt_12 (R_iload_n (i := 3) hC dX11_keptAt_13 rfl rfl (R_iadd hC dX11_keptAt_14 (R_aI hC dX11_keptAt_15 L_m_kept (38 * k + (6 * r + c)) (by rw [Int32.add_assoc, n6, n38]) (by omega) (by decide) ?_)))
  exact R_iret hC hT dX11_keptAt_16 rfl ⟨rfl, rfl⟩
theorem s_entry (σ : sg) (x : aW) (r c : Int32) (hR0 : 0 ≤ (σ.2.2 i_m_now 36).toInt ∧ (σ.2.2 i_m_now 36).toInt ≤ 6 ∧ 0 ≤ (σ.2.2 i_m_now 37).toInt ∧ (σ.2.2 i_m_now 37).toInt ≤ 6) : Mt mX11_entry 1 0 0 [.ref i_M, .int r, .int c] (wd σ x) (fun q w => (∃ i j : Nat, r = nI i ∧ c = nI j ∧ inT (σ.2.2 i_m_now) r c ∧ q = some (.int (σ.2.2 i_m_now (6 * i + j))) ∧ w = wd (sG σ i_M 0 0) x) ∨ (¬ inT (σ.2.2 i_m_now) r c ∧ q = some (.int 0) ∧ w = wd (sG σ i_M 0 1) x)) := by
  refine Mt.of MI_X11_entry (Nat.le_of_ble_eq_true rfl) (fun X hC hR hT => ?_)
  refine R_aload_n (i := 0) hC dX11_entry_0 rfl rfl (R_aload_n (i := 0) hC dX11_entry_1 rfl rfl (R_aload_n (i := 0) hC dX11_entry_2 rfl rfl (R_gR hC dX11_entry_3 fl_X11_13 L_M rfl (R_iload_n (i := 1) hC dX11_entry_6 rfl rfl (R_iload_n (i := 2) hC dX11_entry_7 rfl rfl ?_)))))
  refine R_V3i hC hR dX11_entry_8 MV_X11_isCell ml_X11_158 L_M rfl (s_isCell _ _ _ L_m_now _ _) (by decide) ⟨by decide, by decide⟩ (Nat.le_of_ble_eq_true rfl) ?_
  refine R_if_eq hC 18 dX11_entry_11 (by decide) (fun h11 => ?_) (fun h11 => ?_)
  · have hn := b2i_0 h11
    refine R_iconst (v := 1) hC dX11_entry_18 (by decide) (R_pI hC dX11_entry_19 fl_X11_83 L_M rfl (R_aload_n (i := 0) hC dX11_entry_22 rfl rfl (R_gI hC dX11_entry_23 fl_X11_83 L_M rfl ?_)))
    refine R_if_ne hC 43 dX11_entry_26 (by decide) (fun _ => ?_) (fun h => absurd h (by rw [sG_eq] <;> decide))
    refine R_iconst (v := 0) hC dX11_entry_43 (by decide) ?_
    exact R_iret hC hT dX11_entry_44 rfl (by first | exact Or.inl ⟨i, j, rfl, rfl, hin, rfl, rfl⟩ | exact Or.inr ⟨hn, rfl, rfl⟩)
  · have hin := b2i_ne h11
    obtain ⟨h1, h2, h3, h4⟩ := id hin
    obtain ⟨i, rfl, hi, hi2⟩ := i32_nI h1
    obtain ⟨j, rfl, hj, hj2⟩ := i32_nI h3
    refine R_iconst (v := 0) hC dX11_entry_14 (by decide) (R_goto hC 19 dX11_entry_15 (by decide) (R_pI hC dX11_entry_19 fl_X11_83 L_M rfl (R_aload_n (i := 0) hC dX11_entry_22 rfl rfl (R_gI hC dX11_entry_23 fl_X11_83 L_M rfl ?_))))
    refine R_if_ne hC 43 dX11_entry_26 (by decide) (fun h => absurd (by rw [sG_eq] <;> decide) h) (fun _ => ?_)
    refine R_aload_n (i := 0) hC dX11_entry_29 rfl rfl (R_gR hC dX11_entry_30 fl_X11_13 L_M rfl (R_bipush (v := 6) hC dX11_entry_33 (by decide) (R_iload_n (i := 1) hC dX11_entry_35 rfl rfl (R_imul hC dX11_entry_36 (R_iload_n (i := 2) hC dX11_entry_37 rfl rfl (R_iadd hC dX11_entry_38 (R_aI hC dX11_entry_39 L_m_now (6 * i + j) (n6 i j) (by omega) (by decide) ?_)))))))
    refine R_goto hC 44 dX11_entry_40 (by decide) ?_
    exact R_iret hC hT dX11_entry_44 rfl (by first | exact Or.inl ⟨i, j, rfl, rfl, hin, rfl, rfl⟩ | exact Or.inr ⟨hn, rfl, rfl⟩)
end
section
/-- a table: rows, columns, entries -/
abbrev tb : Type := Nat × Nat × (Nat → Nat → Int32)
def sml (v : Int32) : Prop := v = -1 ∨ v = 0 ∨ v = 1
/-- what a row of 38 holds -/
def TB (g : Nat → Int32) (T : tb) : Prop := g 36 = nI T.1 ∧ g 37 = nI T.2.1 ∧ T.1 ≤ 6 ∧ T.2.1 ≤ 6 ∧ ∀ i j, i < T.1 → j < T.2.1 → g (6 * i + j) = T.2.2 i j ∧ sml (T.2.2 i j)
theorem TB.in {g : Nat → Int32} {T : tb} (h : TB g T) {r c : Int32} (q : inT g r c) : ∃ i j : Nat, r = nI i ∧ c = nI j ∧ i < T.1 ∧ j < T.2.1 := by
  obtain ⟨h1, h2, h3, h4⟩ := q
  obtain ⟨i, rfl, hi, _⟩ := i32_nI h1
  obtain ⟨j, rfl, hj, _⟩ := i32_nI h3
  have e1 := nI_toInt (n := T.1) (by have := h.2.2.1; omega)
  have e2 := nI_toInt (n := T.2.1) (by have := h.2.2.2.1; omega)
  rw [h.1, e1] at h2
  rw [h.2.1, e2] at h4
  exact ⟨i, j, rfl, rfl, by omega, by omega⟩
theorem TB.inI {g : Nat → Int32} {T : tb} (h : TB g T) {i j : Nat} (hi : i < T.1) (hj : j < T.2.1) : inT g (nI i) (nI j) := by
  obtain ⟨h1, h2, h3, h4, -⟩ := h
  unfold inT
  rw [h1, h2, nI_toInt (by omega), nI_toInt (by omega), nI_toInt (by omega), nI_toInt (by omega)]
  omega
theorem sml_in {v : Int32} : sml v ↔ (-1 ≤ v.toInt ∧ v.toInt ≤ 1) := by
  constructor
  · rintro (rfl | rfl | rfl) <;> decide
  · rintro ⟨h1, h2⟩
    rcases (by omega : v.toInt = -1 ∨ v.toInt = 0 ∨ v.toInt = 1) with h | h | h
    · exact Or.inl (Int32.toInt_inj.mp h)
    · exact Or.inr (Or.inl (Int32.toInt_inj.mp h))
    · exact Or.inr (Or.inr (Int32.toInt_inj.mp h))
/-- a table turned on an entry -/
def tturn (r c : Nat) (f : Nat → Nat → Int32) (i j : Nat) : Int32 :=
  if i = r ∧ j = c then -(f r c) else if i = r ∨ j = c then f i j * f r c else f i j - f r c * f i c * f r j
theorem dX11_swaps_0 : decode cX11_swaps 0 = .ok (.aload_n 0, 1) := by decide +kernel
theorem dX11_swaps_1 : decode cX11_swaps 1 = .ok (.iload_n 1, 1) := by decide +kernel
theorem dX11_swaps_2 : decode cX11_swaps 2 = .ok (.iaload, 1) := by decide +kernel
theorem dX11_swaps_3 : decode cX11_swaps 3 = .ok (.istore_n 3, 1) := by decide +kernel
theorem dX11_swaps_4 : decode cX11_swaps 4 = .ok (.aload_n 0, 1) := by decide +kernel
theorem dX11_swaps_5 : decode cX11_swaps 5 = .ok (.iload_n 1, 1) := by decide +kernel
theorem dX11_swaps_6 : decode cX11_swaps 6 = .ok (.aload_n 0, 1) := by decide +kernel
theorem dX11_swaps_7 : decode cX11_swaps 7 = .ok (.iload_n 2, 1) := by decide +kernel
theorem dX11_swaps_8 : decode cX11_swaps 8 = .ok (.iaload, 1) := by decide +kernel
theorem dX11_swaps_9 : decode cX11_swaps 9 = .ok (.iastore, 1) := by decide +kernel
theorem dX11_swaps_10 : decode cX11_swaps 10 = .ok (.aload_n 0, 1) := by decide +kernel
theorem dX11_swaps_11 : decode cX11_swaps 11 = .ok (.iload_n 2, 1) := by decide +kernel
theorem dX11_swaps_12 : decode cX11_swaps 12 = .ok (.iload_n 3, 1) := by decide +kernel
theorem dX11_swaps_13 : decode cX11_swaps 13 = .ok (.iastore, 1) := by decide +kernel
theorem dX11_swaps_14 : decode cX11_swaps 14 = .ok (.return_, 1) := by decide +kernel
theorem dX11_canTurn_0 : decode cX11_canTurn 0 = .ok (.aload_n 1, 1) := by decide +kernel
theorem dX11_canTurn_1 : decode cX11_canTurn 1 = .ok (.bipush 6, 2) := by decide +kernel
theorem dX11_canTurn_3 : decode cX11_canTurn 3 = .ok (.iload_n 2, 1) := by decide +kernel
theorem dX11_canTurn_4 : decode cX11_canTurn 4 = .ok (.imul, 1) := by decide +kernel
theorem dX11_canTurn_5 : decode cX11_canTurn 5 = .ok (.iload_n 3, 1) := by decide +kernel
theorem dX11_canTurn_6 : decode cX11_canTurn 6 = .ok (.iadd, 1) := by decide +kernel
theorem dX11_canTurn_7 : decode cX11_canTurn 7 = .ok (.iaload, 1) := by decide +kernel
theorem dX11_canTurn_8 : decode cX11_canTurn 8 = .ok (.istore 4, 2) := by decide +kernel
theorem dX11_canTurn_10 : decode cX11_canTurn 10 = .ok (.aload_n 1, 1) := by decide +kernel
theorem dX11_canTurn_11 : decode cX11_canTurn 11 = .ok (.aload_n 0, 1) := by decide +kernel
theorem dX11_canTurn_12 : decode cX11_canTurn 12 = .ok (.getfield 20, 3) := by decide +kernel
theorem dX11_canTurn_15 : decode cX11_canTurn 15 = .ok (.invokestatic 170, 3) := by decide +kernel
theorem dX11_canTurn_18 : decode cX11_canTurn 18 = .ok (.iconst 0, 1) := by decide +kernel
theorem dX11_canTurn_19 : decode cX11_canTurn 19 = .ok (.istore 5, 2) := by decide +kernel
theorem dX11_canTurn_21 : decode cX11_canTurn 21 = .ok (.iload 5, 2) := by decide +kernel
theorem dX11_canTurn_23 : decode cX11_canTurn 23 = .ok (.aload_n 1, 1) := by decide +kernel
theorem dX11_canTurn_24 : decode cX11_canTurn 24 = .ok (.bipush 36, 2) := by decide +kernel
theorem dX11_canTurn_26 : decode cX11_canTurn 26 = .ok (.iaload, 1) := by decide +kernel
theorem dX11_canTurn_27 : decode cX11_canTurn 27 = .ok (.if_icmp .ge 138, 3) := by decide +kernel
theorem dX11_canTurn_30 : decode cX11_canTurn 30 = .ok (.iconst 0, 1) := by decide +kernel
theorem dX11_canTurn_31 : decode cX11_canTurn 31 = .ok (.istore 6, 2) := by decide +kernel
theorem dX11_canTurn_33 : decode cX11_canTurn 33 = .ok (.iload 6, 2) := by decide +kernel
theorem dX11_canTurn_35 : decode cX11_canTurn 35 = .ok (.aload_n 1, 1) := by decide +kernel
theorem dX11_canTurn_36 : decode cX11_canTurn 36 = .ok (.bipush 37, 2) := by decide +kernel
theorem dX11_canTurn_38 : decode cX11_canTurn 38 = .ok (.iaload, 1) := by decide +kernel
theorem dX11_canTurn_39 : decode cX11_canTurn 39 = .ok (.if_icmp .ge 120, 3) := by decide +kernel
theorem dX11_canTurn_42 : decode cX11_canTurn 42 = .ok (.aload_n 1, 1) := by decide +kernel
theorem dX11_canTurn_43 : decode cX11_canTurn 43 = .ok (.bipush 6, 2) := by decide +kernel
theorem dX11_canTurn_45 : decode cX11_canTurn 45 = .ok (.iload 5, 2) := by decide +kernel
theorem dX11_canTurn_47 : decode cX11_canTurn 47 = .ok (.imul, 1) := by decide +kernel
theorem dX11_canTurn_48 : decode cX11_canTurn 48 = .ok (.iload 6, 2) := by decide +kernel
theorem dX11_canTurn_50 : decode cX11_canTurn 50 = .ok (.iadd, 1) := by decide +kernel
theorem dX11_canTurn_51 : decode cX11_canTurn 51 = .ok (.iaload, 1) := by decide +kernel
theorem dX11_canTurn_52 : decode cX11_canTurn 52 = .ok (.istore 7, 2) := by decide +kernel
theorem dX11_canTurn_54 : decode cX11_canTurn 54 = .ok (.iload 5, 2) := by decide +kernel
theorem dX11_canTurn_56 : decode cX11_canTurn 56 = .ok (.iload_n 2, 1) := by decide +kernel
theorem dX11_canTurn_57 : decode cX11_canTurn 57 = .ok (.if_icmp .ne 17, 3) := by decide +kernel
theorem dX11_canTurn_60 : decode cX11_canTurn 60 = .ok (.iload 6, 2) := by decide +kernel
theorem dX11_canTurn_62 : decode cX11_canTurn 62 = .ok (.iload_n 3, 1) := by decide +kernel
theorem dX11_canTurn_63 : decode cX11_canTurn 63 = .ok (.if_icmp .ne 11, 3) := by decide +kernel
theorem dX11_canTurn_66 : decode cX11_canTurn 66 = .ok (.iload 4, 2) := by decide +kernel
theorem dX11_canTurn_68 : decode cX11_canTurn 68 = .ok (.ineg, 1) := by decide +kernel
theorem dX11_canTurn_69 : decode cX11_canTurn 69 = .ok (.istore 7, 2) := by decide +kernel
theorem dX11_canTurn_71 : decode cX11_canTurn 71 = .ok (.goto 52, 3) := by decide +kernel
theorem dX11_canTurn_74 : decode cX11_canTurn 74 = .ok (.iload 5, 2) := by decide +kernel
theorem dX11_canTurn_76 : decode cX11_canTurn 76 = .ok (.iload_n 2, 1) := by decide +kernel
theorem dX11_canTurn_77 : decode cX11_canTurn 77 = .ok (.if_icmp .eq 9, 3) := by decide +kernel
theorem dX11_canTurn_80 : decode cX11_canTurn 80 = .ok (.iload 6, 2) := by decide +kernel
theorem dX11_canTurn_82 : decode cX11_canTurn 82 = .ok (.iload_n 3, 1) := by decide +kernel
theorem dX11_canTurn_83 : decode cX11_canTurn 83 = .ok (.if_icmp .ne 13, 3) := by decide +kernel
theorem dX11_canTurn_86 : decode cX11_canTurn 86 = .ok (.iload 7, 2) := by decide +kernel
theorem dX11_canTurn_88 : decode cX11_canTurn 88 = .ok (.iload 4, 2) := by decide +kernel
theorem dX11_canTurn_90 : decode cX11_canTurn 90 = .ok (.imul, 1) := by decide +kernel
theorem dX11_canTurn_91 : decode cX11_canTurn 91 = .ok (.istore 7, 2) := by decide +kernel
theorem dX11_canTurn_93 : decode cX11_canTurn 93 = .ok (.goto 30, 3) := by decide +kernel
theorem dX11_canTurn_96 : decode cX11_canTurn 96 = .ok (.iload 7, 2) := by decide +kernel
theorem dX11_canTurn_98 : decode cX11_canTurn 98 = .ok (.iload 4, 2) := by decide +kernel
theorem dX11_canTurn_100 : decode cX11_canTurn 100 = .ok (.aload_n 1, 1) := by decide +kernel
theorem dX11_canTurn_101 : decode cX11_canTurn 101 = .ok (.bipush 6, 2) := by decide +kernel
theorem dX11_canTurn_103 : decode cX11_canTurn 103 = .ok (.iload 5, 2) := by decide +kernel
theorem dX11_canTurn_105 : decode cX11_canTurn 105 = .ok (.imul, 1) := by decide +kernel
theorem dX11_canTurn_106 : decode cX11_canTurn 106 = .ok (.iload_n 3, 1) := by decide +kernel
theorem dX11_canTurn_107 : decode cX11_canTurn 107 = .ok (.iadd, 1) := by decide +kernel
theorem dX11_canTurn_108 : decode cX11_canTurn 108 = .ok (.iaload, 1) := by decide +kernel
theorem dX11_canTurn_109 : decode cX11_canTurn 109 = .ok (.imul, 1) := by decide +kernel
theorem dX11_canTurn_110 : decode cX11_canTurn 110 = .ok (.aload_n 1, 1) := by decide +kernel
theorem dX11_canTurn_111 : decode cX11_canTurn 111 = .ok (.bipush 6, 2) := by decide +kernel
theorem dX11_canTurn_113 : decode cX11_canTurn 113 = .ok (.iload_n 2, 1) := by decide +kernel
theorem dX11_canTurn_114 : decode cX11_canTurn 114 = .ok (.imul, 1) := by decide +kernel
theorem dX11_canTurn_115 : decode cX11_canTurn 115 = .ok (.iload 6, 2) := by decide +kernel
theorem dX11_canTurn_117 : decode cX11_canTurn 117 = .ok (.iadd, 1) := by decide +kernel
theorem dX11_canTurn_118 : decode cX11_canTurn 118 = .ok (.iaload, 1) := by decide +kernel
theorem dX11_canTurn_119 : decode cX11_canTurn 119 = .ok (.imul, 1) := by decide +kernel
theorem dX11_canTurn_120 : decode cX11_canTurn 120 = .ok (.isub, 1) := by decide +kernel
theorem dX11_canTurn_121 : decode cX11_canTurn 121 = .ok (.istore 7, 2) := by decide +kernel
theorem dX11_canTurn_123 : decode cX11_canTurn 123 = .ok (.iload 7, 2) := by decide +kernel
theorem dX11_canTurn_125 : decode cX11_canTurn 125 = .ok (.i2l, 1) := by decide +kernel
theorem dX11_canTurn_126 : decode cX11_canTurn 126 = .ok (.ldc2_w 162, 3) := by decide +kernel
theorem dX11_canTurn_129 : decode cX11_canTurn 129 = .ok (.lconst 1, 1) := by decide +kernel
theorem dX11_canTurn_130 : decode cX11_canTurn 130 = .ok (.invokestatic 140, 3) := by decide +kernel
theorem dX11_canTurn_133 : decode cX11_canTurn 133 = .ok (.ifCond .ne 5, 3) := by decide +kernel
theorem dX11_canTurn_136 : decode cX11_canTurn 136 = .ok (.iconst 0, 1) := by decide +kernel
theorem dX11_canTurn_137 : decode cX11_canTurn 137 = .ok (.ireturn, 1) := by decide +kernel
theorem dX11_canTurn_138 : decode cX11_canTurn 138 = .ok (.aload_n 0, 1) := by decide +kernel
theorem dX11_canTurn_139 : decode cX11_canTurn 139 = .ok (.getfield 20, 3) := by decide +kernel
theorem dX11_canTurn_142 : decode cX11_canTurn 142 = .ok (.bipush 6, 2) := by decide +kernel
theorem dX11_canTurn_144 : decode cX11_canTurn 144 = .ok (.iload 5, 2) := by decide +kernel
theorem dX11_canTurn_146 : decode cX11_canTurn 146 = .ok (.imul, 1) := by decide +kernel
theorem dX11_canTurn_147 : decode cX11_canTurn 147 = .ok (.iload 6, 2) := by decide +kernel
theorem dX11_canTurn_149 : decode cX11_canTurn 149 = .ok (.iadd, 1) := by decide +kernel
theorem dX11_canTurn_150 : decode cX11_canTurn 150 = .ok (.iload 7, 2) := by decide +kernel
theorem dX11_canTurn_152 : decode cX11_canTurn 152 = .ok (.iastore, 1) := by decide +kernel
theorem dX11_canTurn_153 : decode cX11_canTurn 153 = .ok (.iinc 6 1, 3) := by decide +kernel
theorem dX11_canTurn_156 : decode cX11_canTurn 156 = .ok (.goto (-123), 3) := by decide +kernel
theorem dX11_canTurn_159 : decode cX11_canTurn 159 = .ok (.iinc 5 1, 3) := by decide +kernel
theorem dX11_canTurn_162 : decode cX11_canTurn 162 = .ok (.goto (-141), 3) := by decide +kernel
theorem dX11_canTurn_165 : decode cX11_canTurn 165 = .ok (.iconst 1, 1) := by decide +kernel
theorem dX11_canTurn_166 : decode cX11_canTurn 166 = .ok (.ireturn, 1) := by decide +kernel
theorem s_swaps (σ : sg) (x : aW) (t : Nat) (ht : LY t (0, 38, [])) (a b : Nat) (ha : a < 38) (hb : b < 38) : Mt mX11_swaps 0 0 0 [.ref t, .int (nI a), .int (nI b)] (wd σ x) (QV (wd (sA σ t (upd (upd (σ.2.2 t) a (σ.2.2 t b)) b (σ.2.2 t a))) x)) := by
  refine Mt.of MI_X11_swaps (Nat.le_of_ble_eq_true rfl) (fun X hC hR hT => ?_)
  refine R_aload_n (i := 0) hC dX11_swaps_0 rfl rfl (R_iload_n (i := 1) hC dX11_swaps_1 rfl rfl (R_aI hC dX11_swaps_2 ht _ rfl (by omega) (by decide) (R_istore_n (i := 3) hC dX11_swaps_3 rfl (by decide) rfl (R_aload_n (i := 0) hC dX11_swaps_4 rfl rfl (R_iload_n (i := 1) hC dX11_swaps_5 rfl rfl (R_aload_n (i := 0) hC dX11_swaps_6 rfl rfl (R_iload_n (i := 2) hC dX11_swaps_7 rfl rfl ?_)))))))
  refine R_aI hC dX11_swaps_8 ht _ rfl (by omega) (by decide) (R_sI hC dX11_swaps_9 ht _ rfl (by omega) (by decide) (R_aload_n (i := 0) hC dX11_swaps_10 rfl rfl (R_iload_n (i := 2) hC dX11_swaps_11 rfl rfl (R_iload_n (i := 3) hC dX11_swaps_12 rfl rfl (R_sI hC dX11_swaps_13 ht _ rfl (by omega) (by decide) ?_)))))
  exact R_vret hC hT dX11_swaps_14 rfl ⟨rfl, by rw [sA_sA, sA_eq]⟩
theorem nI_inj {a b : Nat} (ha : a < 2 ^ 31) (hb : b < 2 ^ 31) (h : nI a = nI b) : a = b := (nI_eq ha hb).mp h
/-- canTurn: whether all entries, turned, are within -1 .. 1; then the trial holds them -/
theorem s_canTurn (σ : sg) (x : aW) (t : Nat) (ht : LY t (0, 38, [])) (hne : t ≠ i_m_trial) (T : tb) (hT0 : TB (σ.2.2 t) T) (r c : Nat) (hr : r < T.1) (hc : c < T.2.1) :
    Mt mX11_canTurn 1 0 0 [.ref i_M, .ref t, .int (nI r), .int (nI c)] (wd σ x) (fun q w => ∃ g : Nat → Int32, w = wd (sA σ i_m_trial g) x ∧
      (((∀ i j, i < T.1 → j < T.2.1 → sml (tturn r c T.2.2 i j)) ∧ q = some (.int 1) ∧ TB g (T.1, T.2.1, tturn r c T.2.2)) ∨ (¬ (∀ i j, i < T.1 → j < T.2.1 → sml (tturn r c T.2.2 i j)) ∧ q = some (.int 0)))) := by
  refine Mt.of MI_X11_canTurn (Nat.le_of_ble_eq_true rfl) (fun X hC hR hT => ?_)
  obtain ⟨hR1, hC1, hR6, hC6, hE⟩ := id hT0
  have rd : ∀ {i j : Nat}, i < T.1 → j < T.2.1 → σ.2.2 t (6 * i + j) = T.2.2 i j := fun hi hj => (hE _ _ hi hj).1
  have e0 : ∀ (g : Nat → Int32) (k : Nat), (sA σ i_m_trial g).2.2 t k = σ.2.2 t k := fun g k => by rw [sA_ne hne]
  -- both loops: the trial holds what was turned so far
  have key : ∀ n, n ≤ T.1 → ∀ g : Nat → Int32, g 36 = nI T.1 → g 37 = nI T.2.1 → (∀ i j, i < n → j < T.2.1 → g (6 * i + j) = tturn r c T.2.2 i j ∧ sml (tturn r c T.2.2 i j)) → ∀ (u6 u7 : Option Value), Rw mX11_canTurn X 21 [some (.ref i_M), some (.ref t), some (.int (nI r)), some (.int (nI c)), some (.int (T.2.2 r c)), some (.int (nI n)), u6, u7] [] (wd (sA σ i_m_trial g) x) 0 0 := by
    refine up_loop T.1 ?_ ?_
    · intro g h36 h37 hg u6 u7
      refine R_iload hC dX11_canTurn_21 rfl (R_aload_n (i := 1) hC dX11_canTurn_23 rfl rfl (R_bipush (v := 36) hC dX11_canTurn_24 (by decide) (R_aI hC dX11_canTurn_26 ht 36 rfl (by decide) (by decide) ?_)))
      refine R_top (y := nI T.1) (by rw [e0, hR1]) ?_
      refine R_icmp_ge hC 165 dX11_canTurn_27 (by decide) (fun _ => ?_) (fun h => absurd (Int32.le_refl _) h)
      refine R_iconst (v := 1) hC dX11_canTurn_165 (by decide) ?_
      exact R_zret hC hT dX11_canTurn_166 rfl (by decide) ⟨g, rfl, Or.inl ⟨fun i j hi hj => (hg i j hi hj).2, rfl, h36, h37, hR6, hC6, hg⟩⟩
    · intro n hn ih g h36 h37 hg u6 u7
      refine R_iload hC dX11_canTurn_21 rfl (R_aload_n (i := 1) hC dX11_canTurn_23 rfl rfl (R_bipush (v := 36) hC dX11_canTurn_24 (by decide) (R_aI hC dX11_canTurn_26 ht 36 rfl (by decide) (by decide) ?_)))
      refine R_top (y := nI T.1) (by rw [e0, hR1]) ?_
      refine R_icmp_ge hC 165 dX11_canTurn_27 (by decide) (fun h => absurd h (nI_ge hn (by omega))) (fun _ => ?_)
      refine R_iconst (v := 0) hC dX11_canTurn_30 (by decide) (R_istore hC dX11_canTurn_31 (by decide) rfl ?_)
      skip
      -- the inner loop
      have inn : ∀ k, k ≤ T.2.1 → ∀ g : Nat → Int32, g 36 = nI T.1 → g 37 = nI T.2.1 → (∀ i j, i < n → j < T.2.1 → g (6 * i + j) = tturn r c T.2.2 i j ∧ sml (tturn r c T.2.2 i j)) → (∀ j, j < k → g (6 * n + j) = tturn r c T.2.2 n j ∧ sml (tturn r c T.2.2 n j)) → ∀ (u7 : Option Value), Rw mX11_canTurn X 33 [some (.ref i_M), some (.ref t), some (.int (nI r)), some (.int (nI c)), some (.int (T.2.2 r c)), some (.int (nI n)), some (.int (nI k)), u7] [] (wd (sA σ i_m_trial g) x) 0 0 := by
        refine up_loop T.2.1 ?_ ?_
        · intro g h36 h37 hg hk u7
          refine R_iload hC dX11_canTurn_33 rfl (R_aload_n (i := 1) hC dX11_canTurn_35 rfl rfl (R_bipush (v := 37) hC dX11_canTurn_36 (by decide) (R_aI hC dX11_canTurn_38 ht 37 rfl (by decide) (by decide) ?_)))
          refine R_top (y := nI T.2.1) (by rw [e0, hC1]) ?_
          refine R_icmp_ge hC 159 dX11_canTurn_39 (by decide) (fun _ => ?_) (fun h => absurd (Int32.le_refl _) h)
          refine R_iinc hC dX11_canTurn_159 rfl (inc1 _) (by decide) rfl (R_goto hC 21 dX11_canTurn_162 (by decide) ?_)
          exact ih g h36 h37 (fun i j hi hj => by rcases (by omega : i < n ∨ i = n) with h | rfl; exact hg i j h hj; exact hk j hj) _ _
        · intro k hk ihk g h36 h37 hg hgk u7
          have fin : ∀ v, v = tturn r c T.2.2 n k → Rw mX11_canTurn X 123 [some (.ref i_M), some (.ref t), some (.int (nI r)), some (.int (nI c)), some (.int (T.2.2 r c)), some (.int (nI n)), some (.int (nI k)), some (.int v)] [] (wd (sA σ i_m_trial g) x) 0 0 := by
            intro v hv
            refine R_iload hC dX11_canTurn_123 rfl (R_i2l hC dX11_canTurn_125 (R_ldc2 hC dX11_canTurn_126 kc_X11_162 (R_lconst (v := 1) hC dX11_canTurn_129 (by decide) ?_)))
            refine R_S3i hC hR dX11_canTurn_130 MS_X11_isIn ml_X11_140 (s_isInZ v (-1) 1 (-1) 1 (by decide) (by decide) _) (by decide) ⟨by decide, by decide⟩ (Nat.le_of_ble_eq_true rfl) ?_
            refine R_if_ne hC 138 dX11_canTurn_133 (by decide) (fun h133 => ?_) (fun h133 => ?_)
            · refine R_aload_n (i := 0) hC dX11_canTurn_138 rfl rfl (R_gR hC dX11_canTurn_139 fl_X11_20 L_M rfl (R_bipush (v := 6) hC dX11_canTurn_142 (by decide) (R_iload hC dX11_canTurn_144 rfl (R_imul hC dX11_canTurn_146 (R_iload hC dX11_canTurn_147 rfl (R_iadd hC dX11_canTurn_149 (R_iload hC dX11_canTurn_150 rfl ?_)))))))
              refine R_sI hC dX11_canTurn_152 L_m_trial (6 * n + k) (n6 n k) (by omega) (by decide) ?_
              have hsm : sml (tturn r c T.2.2 n k) := by rw [← hv]; exact sml_in.mpr (ite1 h133)
              refine R_wd (by rw [sA_eq, sA_sA]) ?_
              refine R_iinc hC dX11_canTurn_153 rfl (inc1 _) (by decide) rfl (R_goto hC 33 dX11_canTurn_156 (by decide) ?_)
              exact ihk _ (by rw [upd, if_neg (by omega)]; exact h36) (by rw [upd, if_neg (by omega)]; exact h37) (fun i j hi hj => by rw [upd, if_neg (by omega)]; exact hg i j hi hj) (fun j hj => by
              rcases (by omega : j = k ∨ j < k) with rfl | h
              · rw [upd, if_pos rfl]; exact ⟨hv, hsm⟩
              · rw [upd, if_neg (by omega)]; exact hgk j h) _
            · refine R_iconst (v := 0) hC dX11_canTurn_136 (by decide) ?_
              exact R_zret hC hT dX11_canTurn_137 rfl (by decide) ⟨g, rfl, Or.inr ⟨fun q => ite0 h133 (sml_in.mp (by rw [hv]; exact q n k hn hk)), rfl⟩⟩
          refine R_iload hC dX11_canTurn_33 rfl (R_aload_n (i := 1) hC dX11_canTurn_35 rfl rfl (R_bipush (v := 37) hC dX11_canTurn_36 (by decide) (R_aI hC dX11_canTurn_38 ht 37 rfl (by decide) (by decide) ?_)))
          refine R_top (y := nI T.2.1) (by rw [e0, hC1]) ?_
          refine R_icmp_ge hC 159 dX11_canTurn_39 (by decide) (fun h => absurd h (nI_ge hk (by omega))) (fun _ => ?_)
          refine R_aload_n (i := 1) hC dX11_canTurn_42 rfl rfl (R_bipush (v := 6) hC dX11_canTurn_43 (by decide) (R_iload hC dX11_canTurn_45 rfl (R_imul hC dX11_canTurn_47 (R_iload hC dX11_canTurn_48 rfl (R_iadd hC dX11_canTurn_50 (R_aI hC dX11_canTurn_51 ht (6 * n + k) (n6 n k) (by omega) (by decide) ?_))))))
          refine R_top (y := T.2.2 n k) (by rw [e0, rd hn hk]) ?_
          refine R_istore hC dX11_canTurn_52 (by decide) rfl (R_iload hC dX11_canTurn_54 rfl (R_iload_n (i := 2) hC dX11_canTurn_56 rfl rfl ?_))
          have i1 : n < 2 ^ 31 := by omega
          have i2 : r < 2 ^ 31 := by omega
          have i3 : k < 2 ^ 31 := by omega
          have i4 : c < 2 ^ 31 := by omega
          refine R_icmp_ne hC 74 dX11_canTurn_57 (by decide) (fun h57 => ?_) (fun h57 => ?_)
          · refine R_iload hC dX11_canTurn_74 rfl (R_iload_n (i := 2) hC dX11_canTurn_76 rfl rfl ?_)
            refine R_icmp_eq hC 86 dX11_canTurn_77 (by decide) (fun h77 => ?_) (fun h77 => ?_)
            · refine R_iload hC dX11_canTurn_86 rfl (R_iload hC dX11_canTurn_88 rfl (R_imul hC dX11_canTurn_90 (R_istore hC dX11_canTurn_91 (by decide) rfl (R_goto hC 123 dX11_canTurn_93 (by decide) ?_))))
              exact fin _ (by simp only [nI_eq i1 i2, nI_eq i3 i4] at *; first | (exfalso; omega) | simp [tturn, *])
            · refine R_iload hC dX11_canTurn_80 rfl (R_iload_n (i := 3) hC dX11_canTurn_82 rfl rfl ?_)
              refine R_icmp_ne hC 96 dX11_canTurn_83 (by decide) (fun h83 => ?_) (fun h83 => ?_)
              · refine R_iload hC dX11_canTurn_96 rfl (R_iload hC dX11_canTurn_98 rfl (R_aload_n (i := 1) hC dX11_canTurn_100 rfl rfl (R_bipush (v := 6) hC dX11_canTurn_101 (by decide) (R_iload hC dX11_canTurn_103 rfl (R_imul hC dX11_canTurn_105 (R_iload_n (i := 3) hC dX11_canTurn_106 rfl rfl (R_iadd hC dX11_canTurn_107 ?_)))))))
                refine R_aI hC dX11_canTurn_108 ht (6 * n + c) (n6 n c) (by omega) (by decide) ?_
                refine R_top (y := T.2.2 n c) (by rw [e0, rd hn hc]) ?_
                refine R_imul hC dX11_canTurn_109 (R_aload_n (i := 1) hC dX11_canTurn_110 rfl rfl (R_bipush (v := 6) hC dX11_canTurn_111 (by decide) (R_iload_n (i := 2) hC dX11_canTurn_113 rfl rfl (R_imul hC dX11_canTurn_114 (R_iload hC dX11_canTurn_115 rfl (R_iadd hC dX11_canTurn_117 (R_aI hC dX11_canTurn_118 ht (6 * r + k) (n6 r k) (by omega) (by decide) ?_)))))))
                refine R_top (y := T.2.2 r k) (by rw [e0, rd hr hk]) ?_
                refine R_imul hC dX11_canTurn_119 (R_isub hC dX11_canTurn_120 (R_istore hC dX11_canTurn_121 (by decide) rfl ?_))
                exact fin _ (by simp only [nI_eq i1 i2, nI_eq i3 i4] at *; first | (exfalso; omega) | simp [tturn, *])
              · refine R_iload hC dX11_canTurn_86 rfl (R_iload hC dX11_canTurn_88 rfl (R_imul hC dX11_canTurn_90 (R_istore hC dX11_canTurn_91 (by decide) rfl (R_goto hC 123 dX11_canTurn_93 (by decide) ?_))))
                exact fin _ (by simp only [nI_eq i1 i2, nI_eq i3 i4] at *; first | (exfalso; omega) | simp [tturn, *])
          · refine R_iload hC dX11_canTurn_60 rfl (R_iload_n (i := 3) hC dX11_canTurn_62 rfl rfl ?_)
            refine R_icmp_ne hC 74 dX11_canTurn_63 (by decide) (fun h63 => ?_) (fun h63 => ?_)
            · refine R_iload hC dX11_canTurn_74 rfl (R_iload_n (i := 2) hC dX11_canTurn_76 rfl rfl ?_)
              refine R_icmp_eq hC 86 dX11_canTurn_77 (by decide) (fun h77 => ?_) (fun h77 => ?_)
              · refine R_iload hC dX11_canTurn_86 rfl (R_iload hC dX11_canTurn_88 rfl (R_imul hC dX11_canTurn_90 (R_istore hC dX11_canTurn_91 (by decide) rfl (R_goto hC 123 dX11_canTurn_93 (by decide) ?_))))
                exact fin _ (by simp only [nI_eq i1 i2, nI_eq i3 i4] at *; first | (exfalso; omega) | simp [tturn, *])
              · refine R_iload hC dX11_canTurn_80 rfl (R_iload_n (i := 3) hC dX11_canTurn_82 rfl rfl ?_)
                refine R_icmp_ne hC 96 dX11_canTurn_83 (by decide) (fun h83 => ?_) (fun h83 => ?_)
                · refine R_iload hC dX11_canTurn_96 rfl (R_iload hC dX11_canTurn_98 rfl (R_aload_n (i := 1) hC dX11_canTurn_100 rfl rfl (R_bipush (v := 6) hC dX11_canTurn_101 (by decide) (R_iload hC dX11_canTurn_103 rfl (R_imul hC dX11_canTurn_105 (R_iload_n (i := 3) hC dX11_canTurn_106 rfl rfl (R_iadd hC dX11_canTurn_107 ?_)))))))
                  refine R_aI hC dX11_canTurn_108 ht (6 * n + c) (n6 n c) (by omega) (by decide) ?_
                  refine R_top (y := T.2.2 n c) (by rw [e0, rd hn hc]) ?_
                  refine R_imul hC dX11_canTurn_109 (R_aload_n (i := 1) hC dX11_canTurn_110 rfl rfl (R_bipush (v := 6) hC dX11_canTurn_111 (by decide) (R_iload_n (i := 2) hC dX11_canTurn_113 rfl rfl (R_imul hC dX11_canTurn_114 (R_iload hC dX11_canTurn_115 rfl (R_iadd hC dX11_canTurn_117 (R_aI hC dX11_canTurn_118 ht (6 * r + k) (n6 r k) (by omega) (by decide) ?_)))))))
                  refine R_top (y := T.2.2 r k) (by rw [e0, rd hr hk]) ?_
                  refine R_imul hC dX11_canTurn_119 (R_isub hC dX11_canTurn_120 (R_istore hC dX11_canTurn_121 (by decide) rfl ?_))
                  exact fin _ (by simp only [nI_eq i1 i2, nI_eq i3 i4] at *; first | (exfalso; omega) | simp [tturn, *])
                · refine R_iload hC dX11_canTurn_86 rfl (R_iload hC dX11_canTurn_88 rfl (R_imul hC dX11_canTurn_90 (R_istore hC dX11_canTurn_91 (by decide) rfl (R_goto hC 123 dX11_canTurn_93 (by decide) ?_))))
                  exact fin _ (by simp only [nI_eq i1 i2, nI_eq i3 i4] at *; first | (exfalso; omega) | simp [tturn, *])
            · refine R_iload hC dX11_canTurn_66 rfl (R_ineg hC dX11_canTurn_68 (R_istore hC dX11_canTurn_69 (by decide) rfl (R_goto hC 123 dX11_canTurn_71 (by decide) ?_)))
              exact fin _ (by simp only [nI_eq i1 i2, nI_eq i3 i4] at *; first | (exfalso; omega) | simp [tturn, *])
      exact inn 0 (Nat.zero_le _) g h36 h37 hg (fun j hj => absurd hj (by omega)) _
  refine R_aload_n (i := 1) hC dX11_canTurn_0 rfl rfl (R_bipush (v := 6) hC dX11_canTurn_1 (by decide) (R_iload_n (i := 2) hC dX11_canTurn_3 rfl rfl (R_imul hC dX11_canTurn_4 (R_iload_n (i := 3) hC dX11_canTurn_5 rfl rfl (R_iadd hC dX11_canTurn_6 (R_aI hC dX11_canTurn_7 ht (6 * r + c) (n6 r c) (by omega) (by decide) ?_))))))
  refine R_top (y := T.2.2 r c) (rd hr hc) ?_
  refine R_istore hC dX11_canTurn_8 (by decide) rfl (R_aload_n (i := 1) hC dX11_canTurn_10 rfl rfl (R_aload_n (i := 0) hC dX11_canTurn_11 rfl rfl (R_gR hC dX11_canTurn_12 fl_X11_20 L_M rfl ?_)))
  refine R_S2v hC hR dX11_canTurn_15 MS_X11_copy ml_X11_170 (s_copy _ _ _ _ ht L_m_trial hne) (by decide) ⟨by decide, by decide⟩ (Nat.le_of_ble_eq_true rfl) ?_
  refine R_iconst (v := 0) hC dX11_canTurn_18 (by decide) (R_istore hC dX11_canTurn_19 (by decide) rfl ?_)
  exact key 0 (Nat.zero_le _) _ (by simp [cpy, hR1]) (by simp [cpy, hC1]) (fun i j hi => absurd hi (by omega)) _ _
end
section
def inR (n : Nat) (a : Int32) : Prop := 0 ≤ a.toInt ∧ a.toInt < n
/-- why a deed can't be: 0 no table, 1 bounds, 2 it is so, 3 it can't be; -1: it can -/
noncomputable def stopZ (T : tb) (k : Nat) (a b : Int32) : Int32 := by classical exact
  if T.1 = 0 then 0
  else if k = 0 then (if inR T.1 a then -1 else 1)
  else if k = 1 then (if inR T.2.1 a then -1 else 1)
  else if k = 2 then (if inR T.1 a ∧ inR T.1 b then (if a = b then 2 else -1) else 1)
  else if k = 3 then (if inR T.2.1 a ∧ inR T.2.1 b then (if a = b then 2 else -1) else 1)
  else if k = 4 then (if inR T.1 a ∧ inR T.2.1 b then (if T.2.2 a.toNatClampNeg b.toNatClampNeg = 0 then 2 else if (∀ i j, i < T.1 → j < T.2.1 → sml (tturn a.toNatClampNeg b.toNatClampNeg T.2.2 i j)) then -1 else 3) else 1)
  else if k = 5 then -1
  else if k = 6 then (if inR T.1 a then (if T.1 = 1 then 3 else -1) else 1)
  else if k = 7 then (if inR T.2.1 a then (if T.2.1 = 1 then 3 else -1) else 1)
  else 1
theorem st_6a {T : tb} {a b : Int32} (h : ¬ T.1 = 0) (h1 : ¬ inR T.1 a) : stopZ T 6 a b = 1 := by
  unfold stopZ
  rw [if_neg h, if_neg (show ¬ (6 : Nat) = 0 by decide), if_neg (show ¬ (6 : Nat) = 1 by decide), if_neg (show ¬ (6 : Nat) = 2 by decide), if_neg (show ¬ (6 : Nat) = 3 by decide), if_neg (show ¬ (6 : Nat) = 4 by decide), if_neg (show ¬ (6 : Nat) = 5 by decide), if_pos rfl, if_neg h1]
theorem st_6b {T : tb} {a b : Int32} (h : ¬ T.1 = 0) (h1 : inR T.1 a) (h2 : T.1 = 1) : stopZ T 6 a b = 3 := by
  unfold stopZ
  rw [if_neg h, if_neg (show ¬ (6 : Nat) = 0 by decide), if_neg (show ¬ (6 : Nat) = 1 by decide), if_neg (show ¬ (6 : Nat) = 2 by decide), if_neg (show ¬ (6 : Nat) = 3 by decide), if_neg (show ¬ (6 : Nat) = 4 by decide), if_neg (show ¬ (6 : Nat) = 5 by decide), if_pos rfl, if_pos h1, if_pos h2]
theorem st_6c {T : tb} {a b : Int32} (h : ¬ T.1 = 0) (h1 : inR T.1 a) (h2 : ¬ T.1 = 1) : stopZ T 6 a b = -1 := by
  unfold stopZ
  rw [if_neg h, if_neg (show ¬ (6 : Nat) = 0 by decide), if_neg (show ¬ (6 : Nat) = 1 by decide), if_neg (show ¬ (6 : Nat) = 2 by decide), if_neg (show ¬ (6 : Nat) = 3 by decide), if_neg (show ¬ (6 : Nat) = 4 by decide), if_neg (show ¬ (6 : Nat) = 5 by decide), if_pos rfl, if_pos h1, if_neg h2]
theorem st_7a {T : tb} {a b : Int32} (h : ¬ T.1 = 0) (h1 : ¬ inR T.2.1 a) : stopZ T 7 a b = 1 := by
  unfold stopZ
  rw [if_neg h, if_neg (show ¬ (7 : Nat) = 0 by decide), if_neg (show ¬ (7 : Nat) = 1 by decide), if_neg (show ¬ (7 : Nat) = 2 by decide), if_neg (show ¬ (7 : Nat) = 3 by decide), if_neg (show ¬ (7 : Nat) = 4 by decide), if_neg (show ¬ (7 : Nat) = 5 by decide), if_neg (show ¬ (7 : Nat) = 6 by decide), if_pos rfl, if_neg h1]
theorem st_7b {T : tb} {a b : Int32} (h : ¬ T.1 = 0) (h1 : inR T.2.1 a) (h2 : T.2.1 = 1) : stopZ T 7 a b = 3 := by
  unfold stopZ
  rw [if_neg h, if_neg (show ¬ (7 : Nat) = 0 by decide), if_neg (show ¬ (7 : Nat) = 1 by decide), if_neg (show ¬ (7 : Nat) = 2 by decide), if_neg (show ¬ (7 : Nat) = 3 by decide), if_neg (show ¬ (7 : Nat) = 4 by decide), if_neg (show ¬ (7 : Nat) = 5 by decide), if_neg (show ¬ (7 : Nat) = 6 by decide), if_pos rfl, if_pos h1, if_pos h2]
theorem st_7c {T : tb} {a b : Int32} (h : ¬ T.1 = 0) (h1 : inR T.2.1 a) (h2 : ¬ T.2.1 = 1) : stopZ T 7 a b = -1 := by
  unfold stopZ
  rw [if_neg h, if_neg (show ¬ (7 : Nat) = 0 by decide), if_neg (show ¬ (7 : Nat) = 1 by decide), if_neg (show ¬ (7 : Nat) = 2 by decide), if_neg (show ¬ (7 : Nat) = 3 by decide), if_neg (show ¬ (7 : Nat) = 4 by decide), if_neg (show ¬ (7 : Nat) = 5 by decide), if_neg (show ¬ (7 : Nat) = 6 by decide), if_pos rfl, if_pos h1, if_neg h2]
theorem st_4a {T : tb} {a b : Int32} (h : ¬ T.1 = 0) (h1 : ¬ (inR T.1 a ∧ inR T.2.1 b)) : stopZ T 4 a b = 1 := by
  unfold stopZ
  rw [if_neg h, if_neg (show ¬ (4 : Nat) = 0 by decide), if_neg (show ¬ (4 : Nat) = 1 by decide), if_neg (show ¬ (4 : Nat) = 2 by decide), if_neg (show ¬ (4 : Nat) = 3 by decide), if_pos rfl, if_neg h1]
theorem st_4b {T : tb} {a b : Int32} (h : ¬ T.1 = 0) (h1 : inR T.1 a ∧ inR T.2.1 b) (h2 : T.2.2 a.toNatClampNeg b.toNatClampNeg = 0) : stopZ T 4 a b = 2 := by
  unfold stopZ
  rw [if_neg h, if_neg (show ¬ (4 : Nat) = 0 by decide), if_neg (show ¬ (4 : Nat) = 1 by decide), if_neg (show ¬ (4 : Nat) = 2 by decide), if_neg (show ¬ (4 : Nat) = 3 by decide), if_pos rfl, if_pos h1, if_pos h2]
theorem st_4c {T : tb} {a b : Int32} (h : ¬ T.1 = 0) (h1 : inR T.1 a ∧ inR T.2.1 b) (h2 : ¬ T.2.2 a.toNatClampNeg b.toNatClampNeg = 0) (h3 : ∀ i j, i < T.1 → j < T.2.1 → sml (tturn a.toNatClampNeg b.toNatClampNeg T.2.2 i j)) : stopZ T 4 a b = -1 := by
  unfold stopZ
  rw [if_neg h, if_neg (show ¬ (4 : Nat) = 0 by decide), if_neg (show ¬ (4 : Nat) = 1 by decide), if_neg (show ¬ (4 : Nat) = 2 by decide), if_neg (show ¬ (4 : Nat) = 3 by decide), if_pos rfl, if_pos h1, if_neg h2, if_pos h3]
theorem st_4d {T : tb} {a b : Int32} (h : ¬ T.1 = 0) (h1 : inR T.1 a ∧ inR T.2.1 b) (h2 : ¬ T.2.2 a.toNatClampNeg b.toNatClampNeg = 0) (h3 : ¬ ∀ i j, i < T.1 → j < T.2.1 → sml (tturn a.toNatClampNeg b.toNatClampNeg T.2.2 i j)) : stopZ T 4 a b = 3 := by
  unfold stopZ
  rw [if_neg h, if_neg (show ¬ (4 : Nat) = 0 by decide), if_neg (show ¬ (4 : Nat) = 1 by decide), if_neg (show ¬ (4 : Nat) = 2 by decide), if_neg (show ¬ (4 : Nat) = 3 by decide), if_pos rfl, if_pos h1, if_neg h2, if_neg h3]
theorem sw8 {x : Int32} (h1 : 0 ≤ x.toInt) (h2 : x.toInt ≤ 7) : x = nI 0 ∨ x = nI 1 ∨ x = nI 2 ∨ x = nI 3 ∨ x = nI 4 ∨ x = nI 5 ∨ x = nI 6 ∨ x = nI 7 := by
  obtain ⟨j, rfl, hj, -⟩ := i32_nI h1
  rcases (by omega : j = 0 ∨ j = 1 ∨ j = 2 ∨ j = 3 ∨ j = 4 ∨ j = 5 ∨ j = 6 ∨ j = 7) with rfl | rfl | rfl | rfl | rfl | rfl | rfl | rfl <;> simp
theorem inR_i {n : Nat} {a : Int32} (h : inR n a) : ∃ i : Nat, a = nI i ∧ i < n ∧ i < 2 ^ 31 := by
  obtain ⟨i, rfl, hi, h2⟩ := i32_nI h.1
  exact ⟨i, rfl, by have := h.2; omega, h2⟩
theorem inR_n {n i : Nat} (h : i < n) (hn : n ≤ 6) : inR n (nI i) := by
  unfold inR
  rw [nI_toInt (by omega)]; omega
theorem TB.inT_iff {g : Nat → Int32} {T : tb} (h : TB g T) {r c : Int32} : inT g r c ↔ inR T.1 r ∧ inR T.2.1 c := by
  unfold inT inR
  rw [h.1, h.2.1, nI_toInt (n := T.1) (by have := h.2.2.1; omega), nI_toInt (n := T.2.1) (by have := h.2.2.2.1; omega)]
  constructor
  · rintro ⟨a, b, c, d⟩; exact ⟨⟨a, b⟩, c, d⟩
  · rintro ⟨⟨a, b⟩, c, d⟩; exact ⟨a, b, c, d⟩
theorem dX11_stops_0 : decode cX11_stops 0 = .ok (.aload_n 1, 1) := by decide +kernel
theorem dX11_stops_1 : decode cX11_stops 1 = .ok (.bipush 36, 2) := by decide +kernel
theorem dX11_stops_3 : decode cX11_stops 3 = .ok (.iaload, 1) := by decide +kernel
theorem dX11_stops_4 : decode cX11_stops 4 = .ok (.ifCond .ne 5, 3) := by decide +kernel
theorem dX11_stops_7 : decode cX11_stops 7 = .ok (.iconst 0, 1) := by decide +kernel
theorem dX11_stops_8 : decode cX11_stops 8 = .ok (.ireturn, 1) := by decide +kernel
theorem dX11_stops_9 : decode cX11_stops 9 = .ok (.iload_n 3, 1) := by decide +kernel
theorem dX11_stops_10 : decode cX11_stops 10 = .ok (.ifCond .lt 15, 3) := by decide +kernel
theorem dX11_stops_13 : decode cX11_stops 13 = .ok (.iload_n 3, 1) := by decide +kernel
theorem dX11_stops_14 : decode cX11_stops 14 = .ok (.aload_n 1, 1) := by decide +kernel
theorem dX11_stops_15 : decode cX11_stops 15 = .ok (.bipush 36, 2) := by decide +kernel
theorem dX11_stops_17 : decode cX11_stops 17 = .ok (.iaload, 1) := by decide +kernel
theorem dX11_stops_18 : decode cX11_stops 18 = .ok (.if_icmp .ge 7, 3) := by decide +kernel
theorem dX11_stops_21 : decode cX11_stops 21 = .ok (.iconst 1, 1) := by decide +kernel
theorem dX11_stops_22 : decode cX11_stops 22 = .ok (.goto 4, 3) := by decide +kernel
theorem dX11_stops_25 : decode cX11_stops 25 = .ok (.iconst 0, 1) := by decide +kernel
theorem dX11_stops_26 : decode cX11_stops 26 = .ok (.istore 5, 2) := by decide +kernel
theorem dX11_stops_28 : decode cX11_stops 28 = .ok (.iload_n 3, 1) := by decide +kernel
theorem dX11_stops_29 : decode cX11_stops 29 = .ok (.ifCond .lt 15, 3) := by decide +kernel
theorem dX11_stops_32 : decode cX11_stops 32 = .ok (.iload_n 3, 1) := by decide +kernel
theorem dX11_stops_33 : decode cX11_stops 33 = .ok (.aload_n 1, 1) := by decide +kernel
theorem dX11_stops_34 : decode cX11_stops 34 = .ok (.bipush 37, 2) := by decide +kernel
theorem dX11_stops_36 : decode cX11_stops 36 = .ok (.iaload, 1) := by decide +kernel
theorem dX11_stops_37 : decode cX11_stops 37 = .ok (.if_icmp .ge 7, 3) := by decide +kernel
theorem dX11_stops_40 : decode cX11_stops 40 = .ok (.iconst 1, 1) := by decide +kernel
theorem dX11_stops_41 : decode cX11_stops 41 = .ok (.goto 4, 3) := by decide +kernel
theorem dX11_stops_44 : decode cX11_stops 44 = .ok (.iconst 0, 1) := by decide +kernel
theorem dX11_stops_45 : decode cX11_stops 45 = .ok (.istore 6, 2) := by decide +kernel
theorem dX11_stops_47 : decode cX11_stops 47 = .ok (.iload_n 2, 1) := by decide +kernel
theorem dX11_stops_48 : decode cX11_stops 48 = .ok (.tableswitch 226 0 7 #[48, 77, 106, 141, 176, 224, 48, 77], 48) := by decide +kernel
theorem dX11_stops_96 : decode cX11_stops 96 = .ok (.iload 5, 2) := by decide +kernel
theorem dX11_stops_98 : decode cX11_stops 98 = .ok (.ifCond .ne 7, 3) := by decide +kernel
theorem dX11_stops_101 : decode cX11_stops 101 = .ok (.iconst 1, 1) := by decide +kernel
theorem dX11_stops_102 : decode cX11_stops 102 = .ok (.goto 22, 3) := by decide +kernel
theorem dX11_stops_105 : decode cX11_stops 105 = .ok (.iload_n 2, 1) := by decide +kernel
theorem dX11_stops_106 : decode cX11_stops 106 = .ok (.bipush 6, 2) := by decide +kernel
theorem dX11_stops_108 : decode cX11_stops 108 = .ok (.if_icmp .ne 15, 3) := by decide +kernel
theorem dX11_stops_111 : decode cX11_stops 111 = .ok (.aload_n 1, 1) := by decide +kernel
theorem dX11_stops_112 : decode cX11_stops 112 = .ok (.bipush 36, 2) := by decide +kernel
theorem dX11_stops_114 : decode cX11_stops 114 = .ok (.iaload, 1) := by decide +kernel
theorem dX11_stops_115 : decode cX11_stops 115 = .ok (.iconst 1, 1) := by decide +kernel
theorem dX11_stops_116 : decode cX11_stops 116 = .ok (.if_icmp .ne 7, 3) := by decide +kernel
theorem dX11_stops_119 : decode cX11_stops 119 = .ok (.iconst 3, 1) := by decide +kernel
theorem dX11_stops_120 : decode cX11_stops 120 = .ok (.goto 4, 3) := by decide +kernel
theorem dX11_stops_123 : decode cX11_stops 123 = .ok (.iconst (-1), 1) := by decide +kernel
theorem dX11_stops_124 : decode cX11_stops 124 = .ok (.ireturn, 1) := by decide +kernel
theorem dX11_stops_125 : decode cX11_stops 125 = .ok (.iload 6, 2) := by decide +kernel
theorem dX11_stops_127 : decode cX11_stops 127 = .ok (.ifCond .ne 7, 3) := by decide +kernel
theorem dX11_stops_130 : decode cX11_stops 130 = .ok (.iconst 1, 1) := by decide +kernel
theorem dX11_stops_131 : decode cX11_stops 131 = .ok (.goto 22, 3) := by decide +kernel
theorem dX11_stops_134 : decode cX11_stops 134 = .ok (.iload_n 2, 1) := by decide +kernel
theorem dX11_stops_135 : decode cX11_stops 135 = .ok (.bipush 7, 2) := by decide +kernel
theorem dX11_stops_137 : decode cX11_stops 137 = .ok (.if_icmp .ne 15, 3) := by decide +kernel
theorem dX11_stops_140 : decode cX11_stops 140 = .ok (.aload_n 1, 1) := by decide +kernel
theorem dX11_stops_141 : decode cX11_stops 141 = .ok (.bipush 37, 2) := by decide +kernel
theorem dX11_stops_143 : decode cX11_stops 143 = .ok (.iaload, 1) := by decide +kernel
theorem dX11_stops_144 : decode cX11_stops 144 = .ok (.iconst 1, 1) := by decide +kernel
theorem dX11_stops_145 : decode cX11_stops 145 = .ok (.if_icmp .ne 7, 3) := by decide +kernel
theorem dX11_stops_148 : decode cX11_stops 148 = .ok (.iconst 3, 1) := by decide +kernel
theorem dX11_stops_149 : decode cX11_stops 149 = .ok (.goto 4, 3) := by decide +kernel
theorem dX11_stops_152 : decode cX11_stops 152 = .ok (.iconst (-1), 1) := by decide +kernel
theorem dX11_stops_153 : decode cX11_stops 153 = .ok (.ireturn, 1) := by decide +kernel
theorem dX11_stops_154 : decode cX11_stops 154 = .ok (.iload 5, 2) := by decide +kernel
theorem dX11_stops_156 : decode cX11_stops 156 = .ok (.ifCond .eq 17, 3) := by decide +kernel
theorem dX11_stops_159 : decode cX11_stops 159 = .ok (.iload 4, 2) := by decide +kernel
theorem dX11_stops_161 : decode cX11_stops 161 = .ok (.ifCond .lt 12, 3) := by decide +kernel
theorem dX11_stops_164 : decode cX11_stops 164 = .ok (.iload 4, 2) := by decide +kernel
theorem dX11_stops_166 : decode cX11_stops 166 = .ok (.aload_n 1, 1) := by decide +kernel
theorem dX11_stops_167 : decode cX11_stops 167 = .ok (.bipush 36, 2) := by decide +kernel
theorem dX11_stops_169 : decode cX11_stops 169 = .ok (.iaload, 1) := by decide +kernel
theorem dX11_stops_170 : decode cX11_stops 170 = .ok (.if_icmp .lt 7, 3) := by decide +kernel
theorem dX11_stops_173 : decode cX11_stops 173 = .ok (.iconst 1, 1) := by decide +kernel
theorem dX11_stops_174 : decode cX11_stops 174 = .ok (.goto 14, 3) := by decide +kernel
theorem dX11_stops_177 : decode cX11_stops 177 = .ok (.iload_n 3, 1) := by decide +kernel
theorem dX11_stops_178 : decode cX11_stops 178 = .ok (.iload 4, 2) := by decide +kernel
theorem dX11_stops_180 : decode cX11_stops 180 = .ok (.if_icmp .ne 7, 3) := by decide +kernel
theorem dX11_stops_183 : decode cX11_stops 183 = .ok (.iconst 2, 1) := by decide +kernel
theorem dX11_stops_184 : decode cX11_stops 184 = .ok (.goto 4, 3) := by decide +kernel
theorem dX11_stops_187 : decode cX11_stops 187 = .ok (.iconst (-1), 1) := by decide +kernel
theorem dX11_stops_188 : decode cX11_stops 188 = .ok (.ireturn, 1) := by decide +kernel
theorem dX11_stops_189 : decode cX11_stops 189 = .ok (.iload 6, 2) := by decide +kernel
theorem dX11_stops_191 : decode cX11_stops 191 = .ok (.ifCond .eq 17, 3) := by decide +kernel
theorem dX11_stops_194 : decode cX11_stops 194 = .ok (.iload 4, 2) := by decide +kernel
theorem dX11_stops_196 : decode cX11_stops 196 = .ok (.ifCond .lt 12, 3) := by decide +kernel
theorem dX11_stops_199 : decode cX11_stops 199 = .ok (.iload 4, 2) := by decide +kernel
theorem dX11_stops_201 : decode cX11_stops 201 = .ok (.aload_n 1, 1) := by decide +kernel
theorem dX11_stops_202 : decode cX11_stops 202 = .ok (.bipush 37, 2) := by decide +kernel
theorem dX11_stops_204 : decode cX11_stops 204 = .ok (.iaload, 1) := by decide +kernel
theorem dX11_stops_205 : decode cX11_stops 205 = .ok (.if_icmp .lt 7, 3) := by decide +kernel
theorem dX11_stops_208 : decode cX11_stops 208 = .ok (.iconst 1, 1) := by decide +kernel
theorem dX11_stops_209 : decode cX11_stops 209 = .ok (.goto 14, 3) := by decide +kernel
theorem dX11_stops_212 : decode cX11_stops 212 = .ok (.iload_n 3, 1) := by decide +kernel
theorem dX11_stops_213 : decode cX11_stops 213 = .ok (.iload 4, 2) := by decide +kernel
theorem dX11_stops_215 : decode cX11_stops 215 = .ok (.if_icmp .ne 7, 3) := by decide +kernel
theorem dX11_stops_218 : decode cX11_stops 218 = .ok (.iconst 2, 1) := by decide +kernel
theorem dX11_stops_219 : decode cX11_stops 219 = .ok (.goto 4, 3) := by decide +kernel
theorem dX11_stops_222 : decode cX11_stops 222 = .ok (.iconst (-1), 1) := by decide +kernel
theorem dX11_stops_223 : decode cX11_stops 223 = .ok (.ireturn, 1) := by decide +kernel
theorem dX11_stops_224 : decode cX11_stops 224 = .ok (.aload_n 0, 1) := by decide +kernel
theorem dX11_stops_225 : decode cX11_stops 225 = .ok (.aload_n 1, 1) := by decide +kernel
theorem dX11_stops_226 : decode cX11_stops 226 = .ok (.iload_n 3, 1) := by decide +kernel
theorem dX11_stops_227 : decode cX11_stops 227 = .ok (.iload 4, 2) := by decide +kernel
theorem dX11_stops_229 : decode cX11_stops 229 = .ok (.invokevirtual 158, 3) := by decide +kernel
theorem dX11_stops_232 : decode cX11_stops 232 = .ok (.ifCond .ne 7, 3) := by decide +kernel
theorem dX11_stops_235 : decode cX11_stops 235 = .ok (.iconst 1, 1) := by decide +kernel
theorem dX11_stops_236 : decode cX11_stops 236 = .ok (.goto 35, 3) := by decide +kernel
theorem dX11_stops_239 : decode cX11_stops 239 = .ok (.aload_n 1, 1) := by decide +kernel
theorem dX11_stops_240 : decode cX11_stops 240 = .ok (.bipush 6, 2) := by decide +kernel
theorem dX11_stops_242 : decode cX11_stops 242 = .ok (.iload_n 3, 1) := by decide +kernel
theorem dX11_stops_243 : decode cX11_stops 243 = .ok (.imul, 1) := by decide +kernel
theorem dX11_stops_244 : decode cX11_stops 244 = .ok (.iload 4, 2) := by decide +kernel
theorem dX11_stops_246 : decode cX11_stops 246 = .ok (.iadd, 1) := by decide +kernel
theorem dX11_stops_247 : decode cX11_stops 247 = .ok (.iaload, 1) := by decide +kernel
theorem dX11_stops_248 : decode cX11_stops 248 = .ok (.ifCond .ne 7, 3) := by decide +kernel
theorem dX11_stops_251 : decode cX11_stops 251 = .ok (.iconst 2, 1) := by decide +kernel
theorem dX11_stops_252 : decode cX11_stops 252 = .ok (.goto 19, 3) := by decide +kernel
theorem dX11_stops_255 : decode cX11_stops 255 = .ok (.aload_n 0, 1) := by decide +kernel
theorem dX11_stops_256 : decode cX11_stops 256 = .ok (.aload_n 1, 1) := by decide +kernel
theorem dX11_stops_257 : decode cX11_stops 257 = .ok (.iload_n 3, 1) := by decide +kernel
theorem dX11_stops_258 : decode cX11_stops 258 = .ok (.iload 4, 2) := by decide +kernel
theorem dX11_stops_260 : decode cX11_stops 260 = .ok (.invokevirtual 174, 3) := by decide +kernel
theorem dX11_stops_263 : decode cX11_stops 263 = .ok (.ifCond .eq 7, 3) := by decide +kernel
theorem dX11_stops_266 : decode cX11_stops 266 = .ok (.iconst (-1), 1) := by decide +kernel
theorem dX11_stops_267 : decode cX11_stops 267 = .ok (.goto 4, 3) := by decide +kernel
theorem dX11_stops_270 : decode cX11_stops 270 = .ok (.iconst 3, 1) := by decide +kernel
theorem dX11_stops_271 : decode cX11_stops 271 = .ok (.ireturn, 1) := by decide +kernel
theorem dX11_stops_272 : decode cX11_stops 272 = .ok (.iconst (-1), 1) := by decide +kernel
theorem dX11_stops_273 : decode cX11_stops 273 = .ok (.ireturn, 1) := by decide +kernel
theorem dX11_stops_274 : decode cX11_stops 274 = .ok (.iconst 1, 1) := by decide +kernel
theorem dX11_stops_275 : decode cX11_stops 275 = .ok (.ireturn, 1) := by decide +kernel
/-- stops: any kind k up to 7 -/
theorem s_stops (σ : sg) (x : aW) (t : Nat) (ht : LY t (0, 38, [])) (hne : t ≠ i_m_trial) (T : tb) (hT0 : TB (σ.2.2 t) T) (kd a b : Int32) :
    Mt mX11_stops 2 0 0 [.ref i_M, .ref t, .int kd, .int a, .int b] (wd σ x) (fun q w => ∃ g : Nat → Int32, w = wd (sA σ i_m_trial g) x ∧
      ((∃ k : Nat, k ≤ 7 ∧ kd = nI k ∧ q = some (.int (stopZ T k a b))) ∨ (¬ (0 ≤ kd.toInt ∧ kd.toInt ≤ 7) ∧ q = some (.int (stopZ T 8 a b))))) := by
  refine Mt.of MI_X11_stops (Nat.le_of_ble_eq_true rfl) (fun X hC hR hT => ?_)
  obtain ⟨hR1, hC1, hR6, hC6, hE⟩ := id hT0
  have hself : wd σ x = wd (sA σ i_m_trial (σ.2.2 i_m_trial)) x := by rw [sA_self]
  have e1 := nI_toInt (n := T.1) (by omega)
  have e2 := nI_toInt (n := T.2.1) (by omega)
  -- behind the two tests
  have sw : ¬ T.1 = 0 → Rw mX11_stops X 47 [some (.ref i_M), some (.ref t), some (.int kd), some (.int a), some (.int b), some (.int (b2i (inR T.1 a))), some (.int (b2i (inR T.2.1 a)))] [] (wd σ x) 0 0 := by
    intro hT1
    have tell : ∀ (v : Int32) (k : Nat), k ≤ 7 → kd = nI k → v = stopZ T k a b → (fun (q : Option Value) (w : aW) => ∃ g : Nat → Int32, w = wd (sA σ i_m_trial g) x ∧
      ((∃ k : Nat, k ≤ 7 ∧ kd = nI k ∧ q = some (.int (stopZ T k a b))) ∨ (¬ (0 ≤ kd.toInt ∧ kd.toInt ≤ 7) ∧ q = some (.int (stopZ T 8 a b))))) (some (.int v)) (wd σ x) :=
      fun v k hk he hv => ⟨_, hself, Or.inl ⟨k, hk, he, by rw [hv]⟩⟩
    by_cases hkd : 0 ≤ kd.toInt ∧ kd.toInt ≤ 7
    · rcases sw8 hkd.1 hkd.2 with rfl | rfl | rfl | rfl | rfl | rfl | rfl | rfl
      · refine R_iload_n (i := 2) hC dX11_stops_47 rfl rfl ?_
        refine R_tableIn hC 96 dX11_stops_48 (by decide) (by decide) rfl (by decide) ?_
        refine R_iload hC dX11_stops_96 rfl ?_
        refine R_if_ne hC 105 dX11_stops_98 (by decide) (fun h98 => ?_) (fun h98 => ?_)
        · refine R_iload_n (i := 2) hC dX11_stops_105 rfl rfl (R_bipush (v := 6) hC dX11_stops_106 (by decide) ?_)
          refine R_icmp_ne hC 123 dX11_stops_108 (by decide) (fun _ => ?_) (fun h => absurd h (by decide))
          refine R_iconst (v := (-1)) hC dX11_stops_123 (by decide) ?_
          exact R_iret hC hT dX11_stops_124 rfl (tell _ 0 (by decide) rfl (by first | (have := b2i_ne h98; simp [stopZ, hT1, this]; done) | (have := b2i_0 h98; simp [stopZ, hT1, this]; done)))
        · refine R_iconst (v := 1) hC dX11_stops_101 (by decide) (R_goto hC 124 dX11_stops_102 (by decide) ?_)
          exact R_iret hC hT dX11_stops_124 rfl (tell _ 0 (by decide) rfl (by first | (have := b2i_ne h98; simp [stopZ, hT1, this]; done) | (have := b2i_0 h98; simp [stopZ, hT1, this]; done)))
      · refine R_iload_n (i := 2) hC dX11_stops_47 rfl rfl ?_
        refine R_tableIn hC 125 dX11_stops_48 (by decide) (by decide) rfl (by decide) ?_
        refine R_iload hC dX11_stops_125 rfl ?_
        refine R_if_ne hC 134 dX11_stops_127 (by decide) (fun h127 => ?_) (fun h127 => ?_)
        · refine R_iload_n (i := 2) hC dX11_stops_134 rfl rfl (R_bipush (v := 7) hC dX11_stops_135 (by decide) ?_)
          refine R_icmp_ne hC 152 dX11_stops_137 (by decide) (fun _ => ?_) (fun h => absurd h (by decide))
          refine R_iconst (v := (-1)) hC dX11_stops_152 (by decide) ?_
          exact R_iret hC hT dX11_stops_153 rfl (tell _ 1 (by decide) rfl (by first | (have := b2i_ne h127; simp [stopZ, hT1, this]; done) | (have := b2i_0 h127; simp [stopZ, hT1, this]; done)))
        · refine R_iconst (v := 1) hC dX11_stops_130 (by decide) (R_goto hC 153 dX11_stops_131 (by decide) ?_)
          exact R_iret hC hT dX11_stops_153 rfl (tell _ 1 (by decide) rfl (by first | (have := b2i_ne h127; simp [stopZ, hT1, this]; done) | (have := b2i_0 h127; simp [stopZ, hT1, this]; done)))
      · refine R_iload_n (i := 2) hC dX11_stops_47 rfl rfl ?_
        refine R_tableIn hC 154 dX11_stops_48 (by decide) (by decide) rfl (by decide) ?_
        refine R_iload hC dX11_stops_154 rfl ?_
        refine R_if_eq hC 173 dX11_stops_156 (by decide) (fun h156 => ?_) (fun h156 => ?_)
        · refine R_iconst (v := 1) hC dX11_stops_173 (by decide) (R_goto hC 188 dX11_stops_174 (by decide) ?_)
          exact R_iret hC hT dX11_stops_188 rfl (tell _ 2 (by decide) rfl (by first | (have h3 := b2i_ne h156; have h4 : inR T.1 b := ⟨by simp only [i32_lt, Int32.toInt_zero] at h161; omega, by simp only [i32_lt, e1] at h170; omega⟩; simp [stopZ, hT1, h3, h4, h180]; done) | (have h4 : ¬ (inR T.1 a ∧ inR T.1 b) := (by first | (intro q; exact b2i_0 h156 q.1) | (rintro ⟨-, q1, q2⟩; simp only [i32_lt, Int32.toInt_zero, e1] at *; omega)); simp [stopZ, hT1, h4]; done)))
        · refine R_iload hC dX11_stops_159 rfl ?_
          refine R_if_lt hC 173 dX11_stops_161 (by decide) (fun h161 => ?_) (fun h161 => ?_)
          · refine R_iconst (v := 1) hC dX11_stops_173 (by decide) (R_goto hC 188 dX11_stops_174 (by decide) ?_)
            exact R_iret hC hT dX11_stops_188 rfl (tell _ 2 (by decide) rfl (by first | (have h3 := b2i_ne h156; have h4 : inR T.1 b := ⟨by simp only [i32_lt, Int32.toInt_zero] at h161; omega, by simp only [i32_lt, e1] at h170; omega⟩; simp [stopZ, hT1, h3, h4, h180]; done) | (have h4 : ¬ (inR T.1 a ∧ inR T.1 b) := (by first | (intro q; exact b2i_0 h156 q.1) | (rintro ⟨-, q1, q2⟩; simp only [i32_lt, Int32.toInt_zero, e1] at *; omega)); simp [stopZ, hT1, h4]; done)))
          · refine R_iload hC dX11_stops_164 rfl (R_aload_n (i := 1) hC dX11_stops_166 rfl rfl (R_bipush (v := 36) hC dX11_stops_167 (by decide) (R_aI hC dX11_stops_169 ht 36 rfl (by decide) (by decide) ?_)))
            refine R_top (y := nI T.1) hR1 ?_
            refine R_icmp_lt hC 177 dX11_stops_170 (by decide) (fun h170 => ?_) (fun h170 => ?_)
            · refine R_iload_n (i := 3) hC dX11_stops_177 rfl rfl (R_iload hC dX11_stops_178 rfl ?_)
              refine R_icmp_ne hC 187 dX11_stops_180 (by decide) (fun h180 => ?_) (fun h180 => ?_)
              · refine R_iconst (v := (-1)) hC dX11_stops_187 (by decide) ?_
                exact R_iret hC hT dX11_stops_188 rfl (tell _ 2 (by decide) rfl (by first | (have h3 := b2i_ne h156; have h4 : inR T.1 b := ⟨by simp only [i32_lt, Int32.toInt_zero] at h161; omega, by simp only [i32_lt, e1] at h170; omega⟩; simp [stopZ, hT1, h3, h4, h180]; done) | (have h4 : ¬ (inR T.1 a ∧ inR T.1 b) := (by first | (intro q; exact b2i_0 h156 q.1) | (rintro ⟨-, q1, q2⟩; simp only [i32_lt, Int32.toInt_zero, e1] at *; omega)); simp [stopZ, hT1, h4]; done)))
              · refine R_iconst (v := 2) hC dX11_stops_183 (by decide) (R_goto hC 188 dX11_stops_184 (by decide) ?_)
                exact R_iret hC hT dX11_stops_188 rfl (tell _ 2 (by decide) rfl (by first | (have h3 := b2i_ne h156; have h4 : inR T.1 b := ⟨by simp only [i32_lt, Int32.toInt_zero] at h161; omega, by simp only [i32_lt, e1] at h170; omega⟩; simp [stopZ, hT1, h3, h4, h180]; done) | (have h4 : ¬ (inR T.1 a ∧ inR T.1 b) := (by first | (intro q; exact b2i_0 h156 q.1) | (rintro ⟨-, q1, q2⟩; simp only [i32_lt, Int32.toInt_zero, e1] at *; omega)); simp [stopZ, hT1, h4]; done)))
            · refine R_iconst (v := 1) hC dX11_stops_173 (by decide) (R_goto hC 188 dX11_stops_174 (by decide) ?_)
              exact R_iret hC hT dX11_stops_188 rfl (tell _ 2 (by decide) rfl (by first | (have h3 := b2i_ne h156; have h4 : inR T.1 b := ⟨by simp only [i32_lt, Int32.toInt_zero] at h161; omega, by simp only [i32_lt, e1] at h170; omega⟩; simp [stopZ, hT1, h3, h4, h180]; done) | (have h4 : ¬ (inR T.1 a ∧ inR T.1 b) := (by first | (intro q; exact b2i_0 h156 q.1) | (rintro ⟨-, q1, q2⟩; simp only [i32_lt, Int32.toInt_zero, e1] at *; omega)); simp [stopZ, hT1, h4]; done)))
      · refine R_iload_n (i := 2) hC dX11_stops_47 rfl rfl ?_
        refine R_tableIn hC 189 dX11_stops_48 (by decide) (by decide) rfl (by decide) ?_
        refine R_iload hC dX11_stops_189 rfl ?_
        refine R_if_eq hC 208 dX11_stops_191 (by decide) (fun h191 => ?_) (fun h191 => ?_)
        · refine R_iconst (v := 1) hC dX11_stops_208 (by decide) (R_goto hC 223 dX11_stops_209 (by decide) ?_)
          exact R_iret hC hT dX11_stops_223 rfl (tell _ 3 (by decide) rfl (by first | (have h3 := b2i_ne h191; have h4 : inR T.2.1 b := ⟨by simp only [i32_lt, Int32.toInt_zero] at h196; omega, by simp only [i32_lt, e2] at h205; omega⟩; simp [stopZ, hT1, h3, h4, h215]; done) | (have h4 : ¬ (inR T.2.1 a ∧ inR T.2.1 b) := (by first | (intro q; exact b2i_0 h191 q.1) | (rintro ⟨-, q1, q2⟩; simp only [i32_lt, Int32.toInt_zero, e2] at *; omega)); simp [stopZ, hT1, h4]; done)))
        · refine R_iload hC dX11_stops_194 rfl ?_
          refine R_if_lt hC 208 dX11_stops_196 (by decide) (fun h196 => ?_) (fun h196 => ?_)
          · refine R_iconst (v := 1) hC dX11_stops_208 (by decide) (R_goto hC 223 dX11_stops_209 (by decide) ?_)
            exact R_iret hC hT dX11_stops_223 rfl (tell _ 3 (by decide) rfl (by first | (have h3 := b2i_ne h191; have h4 : inR T.2.1 b := ⟨by simp only [i32_lt, Int32.toInt_zero] at h196; omega, by simp only [i32_lt, e2] at h205; omega⟩; simp [stopZ, hT1, h3, h4, h215]; done) | (have h4 : ¬ (inR T.2.1 a ∧ inR T.2.1 b) := (by first | (intro q; exact b2i_0 h191 q.1) | (rintro ⟨-, q1, q2⟩; simp only [i32_lt, Int32.toInt_zero, e2] at *; omega)); simp [stopZ, hT1, h4]; done)))
          · refine R_iload hC dX11_stops_199 rfl (R_aload_n (i := 1) hC dX11_stops_201 rfl rfl (R_bipush (v := 37) hC dX11_stops_202 (by decide) (R_aI hC dX11_stops_204 ht 37 rfl (by decide) (by decide) ?_)))
            refine R_top (y := nI T.2.1) hC1 ?_
            refine R_icmp_lt hC 212 dX11_stops_205 (by decide) (fun h205 => ?_) (fun h205 => ?_)
            · refine R_iload_n (i := 3) hC dX11_stops_212 rfl rfl (R_iload hC dX11_stops_213 rfl ?_)
              refine R_icmp_ne hC 222 dX11_stops_215 (by decide) (fun h215 => ?_) (fun h215 => ?_)
              · refine R_iconst (v := (-1)) hC dX11_stops_222 (by decide) ?_
                exact R_iret hC hT dX11_stops_223 rfl (tell _ 3 (by decide) rfl (by first | (have h3 := b2i_ne h191; have h4 : inR T.2.1 b := ⟨by simp only [i32_lt, Int32.toInt_zero] at h196; omega, by simp only [i32_lt, e2] at h205; omega⟩; simp [stopZ, hT1, h3, h4, h215]; done) | (have h4 : ¬ (inR T.2.1 a ∧ inR T.2.1 b) := (by first | (intro q; exact b2i_0 h191 q.1) | (rintro ⟨-, q1, q2⟩; simp only [i32_lt, Int32.toInt_zero, e2] at *; omega)); simp [stopZ, hT1, h4]; done)))
              · refine R_iconst (v := 2) hC dX11_stops_218 (by decide) (R_goto hC 223 dX11_stops_219 (by decide) ?_)
                exact R_iret hC hT dX11_stops_223 rfl (tell _ 3 (by decide) rfl (by first | (have h3 := b2i_ne h191; have h4 : inR T.2.1 b := ⟨by simp only [i32_lt, Int32.toInt_zero] at h196; omega, by simp only [i32_lt, e2] at h205; omega⟩; simp [stopZ, hT1, h3, h4, h215]; done) | (have h4 : ¬ (inR T.2.1 a ∧ inR T.2.1 b) := (by first | (intro q; exact b2i_0 h191 q.1) | (rintro ⟨-, q1, q2⟩; simp only [i32_lt, Int32.toInt_zero, e2] at *; omega)); simp [stopZ, hT1, h4]; done)))
            · refine R_iconst (v := 1) hC dX11_stops_208 (by decide) (R_goto hC 223 dX11_stops_209 (by decide) ?_)
              exact R_iret hC hT dX11_stops_223 rfl (tell _ 3 (by decide) rfl (by first | (have h3 := b2i_ne h191; have h4 : inR T.2.1 b := ⟨by simp only [i32_lt, Int32.toInt_zero] at h196; omega, by simp only [i32_lt, e2] at h205; omega⟩; simp [stopZ, hT1, h3, h4, h215]; done) | (have h4 : ¬ (inR T.2.1 a ∧ inR T.2.1 b) := (by first | (intro q; exact b2i_0 h191 q.1) | (rintro ⟨-, q1, q2⟩; simp only [i32_lt, Int32.toInt_zero, e2] at *; omega)); simp [stopZ, hT1, h4]; done)))
      · refine R_iload_n (i := 2) hC dX11_stops_47 rfl rfl ?_
        refine R_tableIn hC 224 dX11_stops_48 (by decide) (by decide) rfl (by decide) ?_
        refine R_aload_n (i := 0) hC dX11_stops_224 rfl rfl (R_aload_n (i := 1) hC dX11_stops_225 rfl rfl (R_iload_n (i := 3) hC dX11_stops_226 rfl rfl (R_iload hC dX11_stops_227 rfl ?_)))
        refine R_V3i hC hR dX11_stops_229 MV_X11_isCell ml_X11_158 L_M rfl (s_isCell _ _ _ ht _ _) (by decide) ⟨by decide, by decide⟩ (Nat.le_of_ble_eq_true rfl) ?_
        by_cases hin : inT (σ.2.2 t) a b
        · rw [b2i_t hin]
          obtain ⟨i, j, rfl, rfl, hi, hj⟩ := hT0.in hin
          have i1 : inR T.1 (nI i) := inR_n hi hR6
          have i2 : inR T.2.1 (nI j) := inR_n hj hC6
          have c1 : (nI i).toNatClampNeg = i := nI_clamp (by omega)
          have c2 : (nI j).toNatClampNeg = j := nI_clamp (by omega)
          refine R_if_ne hC 239 dX11_stops_232 (by decide) (fun _ => ?_) (fun h => absurd h (by decide))
          refine R_aload_n (i := 1) hC dX11_stops_239 rfl rfl (R_bipush (v := 6) hC dX11_stops_240 (by decide) (R_iload_n (i := 3) hC dX11_stops_242 rfl rfl (R_imul hC dX11_stops_243 (R_iload hC dX11_stops_244 rfl (R_iadd hC dX11_stops_246 ?_)))))
          refine R_aI hC dX11_stops_247 ht (6 * i + j) (n6 i j) (by omega) (by decide) ?_
          refine R_top (hE i j hi hj).1 ?_
          refine R_if_ne hC 255 dX11_stops_248 (by decide) (fun h248 => ?_) (fun h248 => ?_)
          · refine R_aload_n (i := 0) hC dX11_stops_255 rfl rfl (R_aload_n (i := 1) hC dX11_stops_256 rfl rfl (R_iload_n (i := 3) hC dX11_stops_257 rfl rfl (R_iload hC dX11_stops_258 rfl ?_)))
            refine R_V3g hC hR dX11_stops_260 MV_X11_canTurn ml_X11_174 L_M rfl (s_canTurn _ _ _ ht hne T hT0 i j hi hj) (by decide) ⟨by decide, by decide⟩ (Nat.le_of_ble_eq_true rfl) (fun r w1 hq => ?_)
            obtain ⟨g, rfl, hq⟩ := hq
            have tell2 : ∀ v : Int32, v = stopZ T 4 (nI i) (nI j) → (fun (q : Option Value) (w : aW) => ∃ g : Nat → Int32, w = wd (sA σ i_m_trial g) x ∧ ((∃ k : Nat, k ≤ 7 ∧ nI 4 = nI k ∧ q = some (.int (stopZ T k (nI i) (nI j)))) ∨ (¬ (0 ≤ (nI 4).toInt ∧ (nI 4).toInt ≤ 7) ∧ q = some (.int (stopZ T 8 (nI i) (nI j)))))) (some (.int v)) (wd (sA σ i_m_trial g) x) := fun v hv => ⟨_, rfl, Or.inl ⟨4, by decide, rfl, by rw [hv]⟩⟩
            rcases hq with ⟨hyes, rfl, -⟩ | ⟨hno, rfl⟩
            · refine R_if_eq hC 270 dX11_stops_263 (by decide) (fun h => absurd h (by decide)) (fun _ => ?_)
              refine R_iconst (v := (-1)) hC dX11_stops_266 (by decide) (R_goto hC 271 dX11_stops_267 (by decide) ?_)
              exact R_iret hC hT dX11_stops_271 rfl (tell2 _ (st_4c hT1 ⟨i1, i2⟩ (by rw [c1, c2]; exact h248) (by rw [c1, c2]; exact hyes)).symm)
            · refine R_if_eq hC 270 dX11_stops_263 (by decide) (fun _ => ?_) (fun h => absurd rfl h)
              refine R_iconst (v := 3) hC dX11_stops_270 (by decide) ?_
              exact R_iret hC hT dX11_stops_271 rfl (tell2 _ (st_4d hT1 ⟨i1, i2⟩ (by rw [c1, c2]; exact h248) (by rw [c1, c2]; exact hno)).symm)
            skip
          · refine R_iconst (v := 2) hC dX11_stops_251 (by decide) (R_goto hC 271 dX11_stops_252 (by decide) ?_)
            exact R_iret hC hT dX11_stops_271 rfl (by first | exact tell _ 4 (by decide) rfl (st_4b hT1 ⟨i1, i2⟩ (by rw [c1, c2]; exact h248)).symm | skip)
        · rw [b2i_f hin]
          refine R_if_ne hC 239 dX11_stops_232 (by decide) (fun h => absurd rfl h) (fun _ => ?_)
          refine R_iconst (v := 1) hC dX11_stops_235 (by decide) (R_goto hC 271 dX11_stops_236 (by decide) ?_)
          exact R_iret hC hT dX11_stops_271 rfl (tell _ 4 (by decide) rfl (st_4a hT1 (fun q => hin (hT0.inT_iff.mpr q))).symm)
      · refine R_iload_n (i := 2) hC dX11_stops_47 rfl rfl ?_
        refine R_tableIn hC 272 dX11_stops_48 (by decide) (by decide) rfl (by decide) ?_
        refine R_iconst (v := (-1)) hC dX11_stops_272 (by decide) ?_
        exact R_iret hC hT dX11_stops_273 rfl (tell _ 5 (by decide) rfl (by simp [stopZ, hT1]))
      · refine R_iload_n (i := 2) hC dX11_stops_47 rfl rfl ?_
        refine R_tableIn hC 96 dX11_stops_48 (by decide) (by decide) rfl (by decide) ?_
        refine R_iload hC dX11_stops_96 rfl ?_
        refine R_if_ne hC 105 dX11_stops_98 (by decide) (fun h98 => ?_) (fun h98 => ?_)
        · refine R_iload_n (i := 2) hC dX11_stops_105 rfl rfl (R_bipush (v := 6) hC dX11_stops_106 (by decide) ?_)
          refine R_icmp_ne hC 123 dX11_stops_108 (by decide) (fun h => absurd (by decide) h) (fun _ => ?_)
          refine R_aload_n (i := 1) hC dX11_stops_111 rfl rfl (R_bipush (v := 36) hC dX11_stops_112 (by decide) (R_aI hC dX11_stops_114 ht 36 rfl (by decide) (by decide) ?_))
          refine R_top (y := nI T.1) hR1 ?_
          refine R_iconst (v := 1) hC dX11_stops_115 (by decide) ?_
          refine R_icmp_ne hC 123 dX11_stops_116 (by decide) (fun h116 => ?_) (fun h116 => ?_)
          · refine R_iconst (v := (-1)) hC dX11_stops_123 (by decide) ?_
            exact R_iret hC hT dX11_stops_124 rfl (tell _ 6 (by decide) rfl (by first | exact (st_6a hT1 (b2i_0 h98)).symm | (have h4 : (nI T.1 = (1 : Int32)) ↔ T.1 = 1 := nI_eq (b := 1) (by omega) (by decide); rw [h4] at h116; first | exact (st_6b hT1 (b2i_ne h98) h116).symm | exact (st_6c hT1 (b2i_ne h98) h116).symm)))
          · refine R_iconst (v := 3) hC dX11_stops_119 (by decide) (R_goto hC 124 dX11_stops_120 (by decide) ?_)
            exact R_iret hC hT dX11_stops_124 rfl (tell _ 6 (by decide) rfl (by first | exact (st_6a hT1 (b2i_0 h98)).symm | (have h4 : (nI T.1 = (1 : Int32)) ↔ T.1 = 1 := nI_eq (b := 1) (by omega) (by decide); rw [h4] at h116; first | exact (st_6b hT1 (b2i_ne h98) h116).symm | exact (st_6c hT1 (b2i_ne h98) h116).symm)))
        · refine R_iconst (v := 1) hC dX11_stops_101 (by decide) (R_goto hC 124 dX11_stops_102 (by decide) ?_)
          exact R_iret hC hT dX11_stops_124 rfl (tell _ 6 (by decide) rfl (by first | exact (st_6a hT1 (b2i_0 h98)).symm | (have h4 : (nI T.1 = (1 : Int32)) ↔ T.1 = 1 := nI_eq (b := 1) (by omega) (by decide); rw [h4] at h116; first | exact (st_6b hT1 (b2i_ne h98) h116).symm | exact (st_6c hT1 (b2i_ne h98) h116).symm)))
      · refine R_iload_n (i := 2) hC dX11_stops_47 rfl rfl ?_
        refine R_tableIn hC 125 dX11_stops_48 (by decide) (by decide) rfl (by decide) ?_
        refine R_iload hC dX11_stops_125 rfl ?_
        refine R_if_ne hC 134 dX11_stops_127 (by decide) (fun h127 => ?_) (fun h127 => ?_)
        · refine R_iload_n (i := 2) hC dX11_stops_134 rfl rfl (R_bipush (v := 7) hC dX11_stops_135 (by decide) ?_)
          refine R_icmp_ne hC 152 dX11_stops_137 (by decide) (fun h => absurd (by decide) h) (fun _ => ?_)
          refine R_aload_n (i := 1) hC dX11_stops_140 rfl rfl (R_bipush (v := 37) hC dX11_stops_141 (by decide) (R_aI hC dX11_stops_143 ht 37 rfl (by decide) (by decide) ?_))
          refine R_top (y := nI T.2.1) hC1 ?_
          refine R_iconst (v := 1) hC dX11_stops_144 (by decide) ?_
          refine R_icmp_ne hC 152 dX11_stops_145 (by decide) (fun h145 => ?_) (fun h145 => ?_)
          · refine R_iconst (v := (-1)) hC dX11_stops_152 (by decide) ?_
            exact R_iret hC hT dX11_stops_153 rfl (tell _ 7 (by decide) rfl (by first | exact (st_7a hT1 (b2i_0 h127)).symm | (have h4 : (nI T.2.1 = (1 : Int32)) ↔ T.2.1 = 1 := nI_eq (b := 1) (by omega) (by decide); rw [h4] at h145; first | exact (st_7b hT1 (b2i_ne h127) h145).symm | exact (st_7c hT1 (b2i_ne h127) h145).symm)))
          · refine R_iconst (v := 3) hC dX11_stops_148 (by decide) (R_goto hC 153 dX11_stops_149 (by decide) ?_)
            exact R_iret hC hT dX11_stops_153 rfl (tell _ 7 (by decide) rfl (by first | exact (st_7a hT1 (b2i_0 h127)).symm | (have h4 : (nI T.2.1 = (1 : Int32)) ↔ T.2.1 = 1 := nI_eq (b := 1) (by omega) (by decide); rw [h4] at h145; first | exact (st_7b hT1 (b2i_ne h127) h145).symm | exact (st_7c hT1 (b2i_ne h127) h145).symm)))
        · refine R_iconst (v := 1) hC dX11_stops_130 (by decide) (R_goto hC 153 dX11_stops_131 (by decide) ?_)
          exact R_iret hC hT dX11_stops_153 rfl (tell _ 7 (by decide) rfl (by first | exact (st_7a hT1 (b2i_0 h127)).symm | (have h4 : (nI T.2.1 = (1 : Int32)) ↔ T.2.1 = 1 := nI_eq (b := 1) (by omega) (by decide); rw [h4] at h145; first | exact (st_7b hT1 (b2i_ne h127) h145).symm | exact (st_7c hT1 (b2i_ne h127) h145).symm)))
    · refine R_iload_n (i := 2) hC dX11_stops_47 rfl rfl ?_
      refine R_tableOut hC 274 dX11_stops_48 (by omega) (by decide) ?_
      refine R_iconst (v := 1) hC dX11_stops_274 (by decide) ?_
      exact R_iret hC hT dX11_stops_275 rfl ⟨_, hself, Or.inr ⟨hkd, by simp [stopZ, hT1]⟩⟩
  -- the two tests
  have k2 : ¬ T.1 = 0 → ∀ u6, Rw mX11_stops X 28 [some (.ref i_M), some (.ref t), some (.int kd), some (.int a), some (.int b), some (.int (b2i (inR T.1 a))), u6] [] (wd σ x) 0 0 := by
    intro hT1 u6
    have k3 : Rw mX11_stops X 45 [some (.ref i_M), some (.ref t), some (.int kd), some (.int a), some (.int b), some (.int (b2i (inR T.1 a))), u6] [.int (b2i (inR T.2.1 a))] (wd σ x) 0 0 := by
      refine R_istore hC dX11_stops_45 (by decide) rfl ?_
      exact sw hT1
    refine R_iload_n (i := 3) hC dX11_stops_28 rfl rfl ?_
    refine R_if_lt hC 44 dX11_stops_29 (by decide) (fun h29 => ?_) (fun h29 => ?_)
    · refine R_iconst (v := 0) hC dX11_stops_44 (by decide) ?_
      (first | (refine R_top (y := b2i (inR T.2.1 a)) (by rw [b2i_t ⟨by simp only [i32_lt, i32_ge, Int32.toInt_zero, e2] at *; omega, by simp only [i32_lt, i32_ge, Int32.toInt_zero, e2] at *; omega⟩]) ?_; exact k3) | (refine R_top (y := b2i (inR T.2.1 a)) (by rw [b2i_f]; rintro ⟨q1, q2⟩; simp only [i32_lt, i32_ge, Int32.toInt_zero, e2] at *; omega) ?_; exact k3))
    · refine R_iload_n (i := 3) hC dX11_stops_32 rfl rfl (R_aload_n (i := 1) hC dX11_stops_33 rfl rfl (R_bipush (v := 37) hC dX11_stops_34 (by decide) (R_aI hC dX11_stops_36 ht 37 rfl (by decide) (by decide) ?_)))
      refine R_top (y := nI T.2.1) hC1 ?_
      refine R_icmp_ge hC 44 dX11_stops_37 (by decide) (fun h37 => ?_) (fun h37 => ?_)
      · refine R_iconst (v := 0) hC dX11_stops_44 (by decide) ?_
        (first | (refine R_top (y := b2i (inR T.2.1 a)) (by rw [b2i_t ⟨by simp only [i32_lt, i32_ge, Int32.toInt_zero, e2] at *; omega, by simp only [i32_lt, i32_ge, Int32.toInt_zero, e2] at *; omega⟩]) ?_; exact k3) | (refine R_top (y := b2i (inR T.2.1 a)) (by rw [b2i_f]; rintro ⟨q1, q2⟩; simp only [i32_lt, i32_ge, Int32.toInt_zero, e2] at *; omega) ?_; exact k3))
      · refine R_iconst (v := 1) hC dX11_stops_40 (by decide) (R_goto hC 45 dX11_stops_41 (by decide) ?_)
        (first | (refine R_top (y := b2i (inR T.2.1 a)) (by rw [b2i_t ⟨by simp only [i32_lt, i32_ge, Int32.toInt_zero, e2] at *; omega, by simp only [i32_lt, i32_ge, Int32.toInt_zero, e2] at *; omega⟩]) ?_; exact k3) | (refine R_top (y := b2i (inR T.2.1 a)) (by rw [b2i_f]; rintro ⟨q1, q2⟩; simp only [i32_lt, i32_ge, Int32.toInt_zero, e2] at *; omega) ?_; exact k3))
  have k1 : ¬ T.1 = 0 → ∀ u5 u6, Rw mX11_stops X 26 [some (.ref i_M), some (.ref t), some (.int kd), some (.int a), some (.int b), u5, u6] [.int (b2i (inR T.1 a))] (wd σ x) 0 0 := by
    intro hT1 u5 u6
    refine R_istore hC dX11_stops_26 (by decide) rfl ?_
    exact k2 hT1 _
  refine R_aload_n (i := 1) hC dX11_stops_0 rfl rfl (R_bipush (v := 36) hC dX11_stops_1 (by decide) (R_aI hC dX11_stops_3 ht 36 rfl (by decide) (by decide) ?_))
  refine R_top (y := nI T.1) hR1 ?_
  refine R_if_ne hC 9 dX11_stops_4 (by decide) (fun h4 => ?_) (fun h4 => ?_)
  · have hT1 : ¬ T.1 = 0 := fun h => h4 (by rw [h]; rfl)
    refine R_iload_n (i := 3) hC dX11_stops_9 rfl rfl ?_
    refine R_if_lt hC 25 dX11_stops_10 (by decide) (fun h10 => ?_) (fun h10 => ?_)
    · refine R_iconst (v := 0) hC dX11_stops_25 (by decide) ?_
      (first | (refine R_top (y := b2i (inR T.1 a)) (by rw [b2i_t ⟨by simp only [i32_lt, i32_ge, Int32.toInt_zero, e1] at *; omega, by simp only [i32_lt, i32_ge, Int32.toInt_zero, e1] at *; omega⟩]) ?_; exact k1 hT1 _ _) | (refine R_top (y := b2i (inR T.1 a)) (by rw [b2i_f]; rintro ⟨q1, q2⟩; simp only [i32_lt, i32_ge, Int32.toInt_zero, e1] at *; omega) ?_; exact k1 hT1 _ _))
    · refine R_iload_n (i := 3) hC dX11_stops_13 rfl rfl (R_aload_n (i := 1) hC dX11_stops_14 rfl rfl (R_bipush (v := 36) hC dX11_stops_15 (by decide) (R_aI hC dX11_stops_17 ht 36 rfl (by decide) (by decide) ?_)))
      refine R_top (y := nI T.1) hR1 ?_
      refine R_icmp_ge hC 25 dX11_stops_18 (by decide) (fun h18 => ?_) (fun h18 => ?_)
      · refine R_iconst (v := 0) hC dX11_stops_25 (by decide) ?_
        (first | (refine R_top (y := b2i (inR T.1 a)) (by rw [b2i_t ⟨by simp only [i32_lt, i32_ge, Int32.toInt_zero, e1] at *; omega, by simp only [i32_lt, i32_ge, Int32.toInt_zero, e1] at *; omega⟩]) ?_; exact k1 hT1 _ _) | (refine R_top (y := b2i (inR T.1 a)) (by rw [b2i_f]; rintro ⟨q1, q2⟩; simp only [i32_lt, i32_ge, Int32.toInt_zero, e1] at *; omega) ?_; exact k1 hT1 _ _))
      · refine R_iconst (v := 1) hC dX11_stops_21 (by decide) (R_goto hC 26 dX11_stops_22 (by decide) ?_)
        (first | (refine R_top (y := b2i (inR T.1 a)) (by rw [b2i_t ⟨by simp only [i32_lt, i32_ge, Int32.toInt_zero, e1] at *; omega, by simp only [i32_lt, i32_ge, Int32.toInt_zero, e1] at *; omega⟩]) ?_; exact k1 hT1 _ _) | (refine R_top (y := b2i (inR T.1 a)) (by rw [b2i_f]; rintro ⟨q1, q2⟩; simp only [i32_lt, i32_ge, Int32.toInt_zero, e1] at *; omega) ?_; exact k1 hT1 _ _))
  · refine R_iconst (v := 0) hC dX11_stops_7 (by decide) ?_
    exact R_iret hC hT dX11_stops_8 rfl (by
    have h0 : T.1 = 0 := (nI_eq (b := 0) (by omega) (by decide)).mp h4
    by_cases hkd : 0 ≤ kd.toInt ∧ kd.toInt ≤ 7
    · obtain ⟨k, rfl, hk, -⟩ := i32_nI hkd.1
      exact ⟨_, hself, Or.inl ⟨k, by omega, rfl, by simp [stopZ, h0]⟩⟩
    · exact ⟨_, hself, Or.inr ⟨hkd, by simp [stopZ, h0]⟩⟩)
end
section
theorem upd6 {g : Nat → Int32} {a b i j : Nat} {v : Int32} (hb : b < 6) (hj : j < 6) : upd g (6 * a + b) v (6 * i + j) = if i = a ∧ j = b then v else g (6 * i + j) := by
  unfold upd
  by_cases h : 6 * i + j = 6 * a + b
  · rw [if_pos h, if_pos (by omega)]
  · rw [if_neg h, if_neg (by omega)]
theorem upd_36 {g : Nat → Int32} {a b k : Nat} {v : Int32} (hk : k = 36 ∨ k = 37) (ha : a < 6) (hb : b < 6) : upd g (6 * a + b) v k = g k := by
  unfold upd
  rw [if_neg (by omega)]
/-- the same but for what stands in the 36 places -/
def grid (g g0 : Nat → Int32) (F : Nat → Nat → Int32) : Prop := g 36 = g0 36 ∧ g 37 = g0 37 ∧ ∀ i j, i < 6 → j < 6 → g (6 * i + j) = F i j
theorem grid.to {g g0 : Nat → Int32} {F F2 : Nat → Nat → Int32} (h : grid g g0 F) (e : ∀ i j, i < 6 → j < 6 → F i j = F2 i j) : grid g g0 F2 := ⟨h.1, h.2.1, fun i j hi hj => by rw [h.2.2 i j hi hj, e i j hi hj]⟩
theorem grid.upd {g g0 : Nat → Int32} {F : Nat → Nat → Int32} (h : grid g g0 F) {a b : Nat} (ha : a < 6) (hb : b < 6) (v : Int32) : grid (upd g (6 * a + b) v) g0 (fun i j => if i = a ∧ j = b then v else F i j) :=
  ⟨by rw [upd_36 (Or.inl rfl) ha hb]; exact h.1, by rw [upd_36 (Or.inr rfl) ha hb]; exact h.2.1, fun i j hi hj => by rw [upd6 hb hj, h.2.2 i j hi hj]⟩
theorem grid.rf (g : Nat → Int32) : grid g g (fun i j => g (6 * i + j)) := ⟨rfl, rfl, fun _ _ _ _ => rfl⟩
/-- one place set, all others kept: the condition widens by just that place -/
theorem grid.put {g g0 : Nat → Int32} {A B : Nat → Nat → Int32} {p p2 : Nat → Nat → Prop} {_ : ∀ i j, Decidable (p i j)} {_ : ∀ i j, Decidable (p2 i j)} {a b : Nat} {v : Int32} (h : grid g g0 (fun i j => if p i j then A i j else B i j)) (ha : a < 6) (hb : b < 6)
    (hv : v = A a b) (hq : ∀ i j, i < 6 → j < 6 → (p2 i j ↔ p i j ∨ (i = a ∧ j = b))) : grid (_root_.Jvm.Pilot.@@N@@.upd g (6 * a + b) v) g0 (fun i j => if p2 i j then A i j else B i j) := by
  refine (h.upd ha hb v).to (fun i j hi hj => ?_)
  show (if i = a ∧ j = b then v else if p i j then A i j else B i j) = if p2 i j then A i j else B i j
  by_cases e : i = a ∧ j = b
  · obtain ⟨rfl, rfl⟩ := e
    rw [if_pos ⟨rfl, rfl⟩, if_pos ((hq _ _ hi hj).mpr (Or.inr ⟨rfl, rfl⟩)), hv]
  · rw [if_neg e]
    by_cases e2 : p i j
    · rw [if_pos e2, if_pos ((hq _ _ hi hj).mpr (Or.inl e2))]
    · rw [if_neg e2, if_neg (fun q => ((hq _ _ hi hj).mp q).elim e2 e)]
/-- two places set -/
theorem grid.put2 {g g0 : Nat → Int32} {A B : Nat → Nat → Int32} {p p2 : Nat → Nat → Prop} {_ : ∀ i j, Decidable (p i j)} {_ : ∀ i j, Decidable (p2 i j)} {a b c d : Nat} {v u : Int32} (h : grid g g0 (fun i j => if p i j then A i j else B i j)) (ha : a < 6) (hb : b < 6) (hc : c < 6) (hd : d < 6)
    (hv : v = A a b) (hu : u = A c d) (hq : ∀ i j, i < 6 → j < 6 → (p2 i j ↔ p i j ∨ (i = a ∧ j = b) ∨ (i = c ∧ j = d))) : grid (_root_.Jvm.Pilot.@@N@@.upd (_root_.Jvm.Pilot.@@N@@.upd g (6 * a + b) v) (6 * c + d) u) g0 (fun i j => if p2 i j then A i j else B i j) := by
  have h1 : grid (_root_.Jvm.Pilot.@@N@@.upd g (6 * a + b) v) g0 (fun i j => if p i j ∨ (i = a ∧ j = b) then A i j else B i j) := h.put ha hb hv (fun i j _ _ => Iff.rfl)
  exact h1.put hc hd hu (fun i j hi hj => by rw [hq i j hi hj, or_assoc])
theorem grid.cond {g g0 : Nat → Int32} {A B : Nat → Nat → Int32} {p p2 : Nat → Nat → Prop} {_ : ∀ i j, Decidable (p i j)} {_ : ∀ i j, Decidable (p2 i j)} (h : grid g g0 (fun i j => if p i j then A i j else B i j)) (hq : ∀ i j, i < 6 → j < 6 → (p2 i j ↔ p i j) ∨ A i j = B i j) : grid g g0 (fun i j => if p2 i j then A i j else B i j) := by
  refine h.to (fun i j hi hj => ?_)
  show (if p i j then A i j else B i j) = if p2 i j then A i j else B i j
  rcases hq i j hi hj with e | e
  · by_cases e2 : p i j
    · rw [if_pos e2, if_pos (e.mpr e2)]
    · rw [if_neg e2, if_neg (fun q => e2 (e.mp q))]
  · rw [e]; split <;> split <;> rfl
theorem grid.init {g : Nat → Int32} {A : Nat → Nat → Int32} {p : Nat → Nat → Prop} {_ : ∀ i j, Decidable (p i j)} (hq : ∀ i j, i < 6 → j < 6 → ¬ p i j) : grid g g (fun i j => if p i j then A i j else g (6 * i + j)) :=
  (grid.rf g).to (fun i j hi hj => by rw [if_neg (hq i j hi hj)])
theorem grid.TB {g g0 : Nat → Int32} {A B : Nat → Nat → Int32} {p : Nat → Nat → Prop} {_ : ∀ i j, Decidable (p i j)} {R C : Nat} {f : Nat → Nat → Int32} (h : grid g g0 (fun i j => if p i j then A i j else B i j)) (h1 : g0 36 = nI R) (h2 : g0 37 = nI C) (h3 : R ≤ 6) (h4 : C ≤ 6) (e1 : ∀ i j, i < R → j < C → p i j → A i j = f i j ∧ sml (f i j)) (e2 : ∀ i j, i < R → j < C → ¬ p i j → B i j = f i j ∧ sml (f i j)) : Jvm.Pilot.@@N@@.TB g (R, C, f) := by
  refine ⟨by rw [h.1]; exact h1, by rw [h.2.1]; exact h2, h3, h4, fun i j hi hj => ?_⟩
  have hi : i < R := hi
  have hj : j < C := hj
  rw [h.2.2 i j (by omega) (by omega)]
  show (if p i j then A i j else B i j) = f i j ∧ sml (f i j)
  by_cases e : p i j
  · rw [if_pos e]; exact e1 i j hi hj e
  · rw [if_neg e]; exact e2 i j hi hj e
def doA (k a b : Nat) (T : tb) : tb := match k with
  | 0 => (T.1, T.2.1, fun i j => if i = a then -(T.2.2 i j) else T.2.2 i j)
  | 1 => (T.1, T.2.1, fun i j => if j = a then -(T.2.2 i j) else T.2.2 i j)
  | 2 => (T.1, T.2.1, fun i j => if i = a then T.2.2 b j else if i = b then T.2.2 a j else T.2.2 i j)
  | 3 => (T.1, T.2.1, fun i j => if j = a then T.2.2 i b else if j = b then T.2.2 i a else T.2.2 i j)
  | 4 => (T.1, T.2.1, tturn a b T.2.2)
  | 5 => (T.2.1, T.1, fun i j => T.2.2 j i)
  | 6 => (T.1 - 1, T.2.1, fun i j => if i < a then T.2.2 i j else T.2.2 (i + 1) j)
  | 7 => (T.1, T.2.1 - 1, fun i j => if j < a then T.2.2 i j else T.2.2 i (j + 1))
  | _ => T
theorem sml_neg {v : Int32} (h : sml v) : sml (-v) := by
  rcases h with rfl | rfl | rfl
  · exact Or.inr (Or.inr (by decide))
  · exact Or.inr (Or.inl (by decide))
  · exact Or.inl (by decide)
theorem dX11_does_0 : decode cX11_does 0 = .ok (.iconst 0, 1) := by decide +kernel
theorem dX11_does_1 : decode cX11_does 1 = .ok (.istore 5, 2) := by decide +kernel
theorem dX11_does_3 : decode cX11_does 3 = .ok (.iload 5, 2) := by decide +kernel
theorem dX11_does_5 : decode cX11_does 5 = .ok (.bipush 6, 2) := by decide +kernel
theorem dX11_does_7 : decode cX11_does 7 = .ok (.if_icmp .ge 104, 3) := by decide +kernel
theorem dX11_does_10 : decode cX11_does 10 = .ok (.iload_n 2, 1) := by decide +kernel
theorem dX11_does_11 : decode cX11_does 11 = .ok (.ifCond .ne 22, 3) := by decide +kernel
theorem dX11_does_14 : decode cX11_does 14 = .ok (.aload_n 1, 1) := by decide +kernel
theorem dX11_does_15 : decode cX11_does 15 = .ok (.bipush 6, 2) := by decide +kernel
theorem dX11_does_17 : decode cX11_does 17 = .ok (.iload_n 3, 1) := by decide +kernel
theorem dX11_does_18 : decode cX11_does 18 = .ok (.imul, 1) := by decide +kernel
theorem dX11_does_19 : decode cX11_does 19 = .ok (.iload 5, 2) := by decide +kernel
theorem dX11_does_21 : decode cX11_does 21 = .ok (.iadd, 1) := by decide +kernel
theorem dX11_does_22 : decode cX11_does 22 = .ok (.aload_n 1, 1) := by decide +kernel
theorem dX11_does_23 : decode cX11_does 23 = .ok (.bipush 6, 2) := by decide +kernel
theorem dX11_does_25 : decode cX11_does 25 = .ok (.iload_n 3, 1) := by decide +kernel
theorem dX11_does_26 : decode cX11_does 26 = .ok (.imul, 1) := by decide +kernel
theorem dX11_does_27 : decode cX11_does 27 = .ok (.iload 5, 2) := by decide +kernel
theorem dX11_does_29 : decode cX11_does 29 = .ok (.iadd, 1) := by decide +kernel
theorem dX11_does_30 : decode cX11_does 30 = .ok (.iaload, 1) := by decide +kernel
theorem dX11_does_31 : decode cX11_does 31 = .ok (.ineg, 1) := by decide +kernel
theorem dX11_does_32 : decode cX11_does 32 = .ok (.iastore, 1) := by decide +kernel
theorem dX11_does_33 : decode cX11_does 33 = .ok (.iload_n 2, 1) := by decide +kernel
theorem dX11_does_34 : decode cX11_does 34 = .ok (.iconst 1, 1) := by decide +kernel
theorem dX11_does_35 : decode cX11_does 35 = .ok (.if_icmp .ne 22, 3) := by decide +kernel
theorem dX11_does_38 : decode cX11_does 38 = .ok (.aload_n 1, 1) := by decide +kernel
theorem dX11_does_39 : decode cX11_does 39 = .ok (.bipush 6, 2) := by decide +kernel
theorem dX11_does_41 : decode cX11_does 41 = .ok (.iload 5, 2) := by decide +kernel
theorem dX11_does_43 : decode cX11_does 43 = .ok (.imul, 1) := by decide +kernel
theorem dX11_does_44 : decode cX11_does 44 = .ok (.iload_n 3, 1) := by decide +kernel
theorem dX11_does_45 : decode cX11_does 45 = .ok (.iadd, 1) := by decide +kernel
theorem dX11_does_46 : decode cX11_does 46 = .ok (.aload_n 1, 1) := by decide +kernel
theorem dX11_does_47 : decode cX11_does 47 = .ok (.bipush 6, 2) := by decide +kernel
theorem dX11_does_49 : decode cX11_does 49 = .ok (.iload 5, 2) := by decide +kernel
theorem dX11_does_51 : decode cX11_does 51 = .ok (.imul, 1) := by decide +kernel
theorem dX11_does_52 : decode cX11_does 52 = .ok (.iload_n 3, 1) := by decide +kernel
theorem dX11_does_53 : decode cX11_does 53 = .ok (.iadd, 1) := by decide +kernel
theorem dX11_does_54 : decode cX11_does 54 = .ok (.iaload, 1) := by decide +kernel
theorem dX11_does_55 : decode cX11_does 55 = .ok (.ineg, 1) := by decide +kernel
theorem dX11_does_56 : decode cX11_does 56 = .ok (.iastore, 1) := by decide +kernel
theorem dX11_does_57 : decode cX11_does 57 = .ok (.iload_n 2, 1) := by decide +kernel
theorem dX11_does_58 : decode cX11_does 58 = .ok (.iconst 2, 1) := by decide +kernel
theorem dX11_does_59 : decode cX11_does 59 = .ok (.if_icmp .ne 22, 3) := by decide +kernel
theorem dX11_does_62 : decode cX11_does 62 = .ok (.aload_n 1, 1) := by decide +kernel
theorem dX11_does_63 : decode cX11_does 63 = .ok (.bipush 6, 2) := by decide +kernel
theorem dX11_does_65 : decode cX11_does 65 = .ok (.iload_n 3, 1) := by decide +kernel
theorem dX11_does_66 : decode cX11_does 66 = .ok (.imul, 1) := by decide +kernel
theorem dX11_does_67 : decode cX11_does 67 = .ok (.iload 5, 2) := by decide +kernel
theorem dX11_does_69 : decode cX11_does 69 = .ok (.iadd, 1) := by decide +kernel
theorem dX11_does_70 : decode cX11_does 70 = .ok (.bipush 6, 2) := by decide +kernel
theorem dX11_does_72 : decode cX11_does 72 = .ok (.iload 4, 2) := by decide +kernel
theorem dX11_does_74 : decode cX11_does 74 = .ok (.imul, 1) := by decide +kernel
theorem dX11_does_75 : decode cX11_does 75 = .ok (.iload 5, 2) := by decide +kernel
theorem dX11_does_77 : decode cX11_does 77 = .ok (.iadd, 1) := by decide +kernel
theorem dX11_does_78 : decode cX11_does 78 = .ok (.invokestatic 177, 3) := by decide +kernel
theorem dX11_does_81 : decode cX11_does 81 = .ok (.iload_n 2, 1) := by decide +kernel
theorem dX11_does_82 : decode cX11_does 82 = .ok (.iconst 3, 1) := by decide +kernel
theorem dX11_does_83 : decode cX11_does 83 = .ok (.if_icmp .ne 22, 3) := by decide +kernel
theorem dX11_does_86 : decode cX11_does 86 = .ok (.aload_n 1, 1) := by decide +kernel
theorem dX11_does_87 : decode cX11_does 87 = .ok (.bipush 6, 2) := by decide +kernel
theorem dX11_does_89 : decode cX11_does 89 = .ok (.iload 5, 2) := by decide +kernel
theorem dX11_does_91 : decode cX11_does 91 = .ok (.imul, 1) := by decide +kernel
theorem dX11_does_92 : decode cX11_does 92 = .ok (.iload_n 3, 1) := by decide +kernel
theorem dX11_does_93 : decode cX11_does 93 = .ok (.iadd, 1) := by decide +kernel
theorem dX11_does_94 : decode cX11_does 94 = .ok (.bipush 6, 2) := by decide +kernel
theorem dX11_does_96 : decode cX11_does 96 = .ok (.iload 5, 2) := by decide +kernel
theorem dX11_does_98 : decode cX11_does 98 = .ok (.imul, 1) := by decide +kernel
theorem dX11_does_99 : decode cX11_does 99 = .ok (.iload 4, 2) := by decide +kernel
theorem dX11_does_101 : decode cX11_does 101 = .ok (.iadd, 1) := by decide +kernel
theorem dX11_does_102 : decode cX11_does 102 = .ok (.invokestatic 177, 3) := by decide +kernel
theorem dX11_does_105 : decode cX11_does 105 = .ok (.iinc 5 1, 3) := by decide +kernel
theorem dX11_does_108 : decode cX11_does 108 = .ok (.goto (-105), 3) := by decide +kernel
theorem dX11_does_111 : decode cX11_does 111 = .ok (.iload_n 2, 1) := by decide +kernel
theorem dX11_does_112 : decode cX11_does 112 = .ok (.iconst 4, 1) := by decide +kernel
theorem dX11_does_113 : decode cX11_does 113 = .ok (.if_icmp .ne 21, 3) := by decide +kernel
theorem dX11_does_116 : decode cX11_does 116 = .ok (.aload_n 0, 1) := by decide +kernel
theorem dX11_does_117 : decode cX11_does 117 = .ok (.aload_n 1, 1) := by decide +kernel
theorem dX11_does_118 : decode cX11_does 118 = .ok (.iload_n 3, 1) := by decide +kernel
theorem dX11_does_119 : decode cX11_does 119 = .ok (.iload 4, 2) := by decide +kernel
theorem dX11_does_121 : decode cX11_does 121 = .ok (.invokevirtual 174, 3) := by decide +kernel
theorem dX11_does_124 : decode cX11_does 124 = .ok (.istore 5, 2) := by decide +kernel
theorem dX11_does_126 : decode cX11_does 126 = .ok (.aload_n 0, 1) := by decide +kernel
theorem dX11_does_127 : decode cX11_does 127 = .ok (.getfield 20, 3) := by decide +kernel
theorem dX11_does_130 : decode cX11_does 130 = .ok (.aload_n 1, 1) := by decide +kernel
theorem dX11_does_131 : decode cX11_does 131 = .ok (.invokestatic 170, 3) := by decide +kernel
theorem dX11_does_134 : decode cX11_does 134 = .ok (.iload_n 2, 1) := by decide +kernel
theorem dX11_does_135 : decode cX11_does 135 = .ok (.iconst 5, 1) := by decide +kernel
theorem dX11_does_136 : decode cX11_does 136 = .ok (.if_icmp .ne 63, 3) := by decide +kernel
theorem dX11_does_139 : decode cX11_does 139 = .ok (.iconst 0, 1) := by decide +kernel
theorem dX11_does_140 : decode cX11_does 140 = .ok (.istore 5, 2) := by decide +kernel
theorem dX11_does_142 : decode cX11_does 142 = .ok (.iload 5, 2) := by decide +kernel
theorem dX11_does_144 : decode cX11_does 144 = .ok (.bipush 6, 2) := by decide +kernel
theorem dX11_does_146 : decode cX11_does 146 = .ok (.if_icmp .ge 45, 3) := by decide +kernel
theorem dX11_does_149 : decode cX11_does 149 = .ok (.iconst 0, 1) := by decide +kernel
theorem dX11_does_150 : decode cX11_does 150 = .ok (.istore 6, 2) := by decide +kernel
theorem dX11_does_152 : decode cX11_does 152 = .ok (.iload 6, 2) := by decide +kernel
theorem dX11_does_154 : decode cX11_does 154 = .ok (.iload 5, 2) := by decide +kernel
theorem dX11_does_156 : decode cX11_does 156 = .ok (.if_icmp .ge 29, 3) := by decide +kernel
theorem dX11_does_159 : decode cX11_does 159 = .ok (.aload_n 1, 1) := by decide +kernel
theorem dX11_does_160 : decode cX11_does 160 = .ok (.bipush 6, 2) := by decide +kernel
theorem dX11_does_162 : decode cX11_does 162 = .ok (.iload 5, 2) := by decide +kernel
theorem dX11_does_164 : decode cX11_does 164 = .ok (.imul, 1) := by decide +kernel
theorem dX11_does_165 : decode cX11_does 165 = .ok (.iload 6, 2) := by decide +kernel
theorem dX11_does_167 : decode cX11_does 167 = .ok (.iadd, 1) := by decide +kernel
theorem dX11_does_168 : decode cX11_does 168 = .ok (.bipush 6, 2) := by decide +kernel
theorem dX11_does_170 : decode cX11_does 170 = .ok (.iload 6, 2) := by decide +kernel
theorem dX11_does_172 : decode cX11_does 172 = .ok (.imul, 1) := by decide +kernel
theorem dX11_does_173 : decode cX11_does 173 = .ok (.iload 5, 2) := by decide +kernel
theorem dX11_does_175 : decode cX11_does 175 = .ok (.iadd, 1) := by decide +kernel
theorem dX11_does_176 : decode cX11_does 176 = .ok (.invokestatic 177, 3) := by decide +kernel
theorem dX11_does_179 : decode cX11_does 179 = .ok (.iinc 6 1, 3) := by decide +kernel
theorem dX11_does_182 : decode cX11_does 182 = .ok (.goto (-30), 3) := by decide +kernel
theorem dX11_does_185 : decode cX11_does 185 = .ok (.iinc 5 1, 3) := by decide +kernel
theorem dX11_does_188 : decode cX11_does 188 = .ok (.goto (-46), 3) := by decide +kernel
theorem dX11_does_191 : decode cX11_does 191 = .ok (.aload_n 1, 1) := by decide +kernel
theorem dX11_does_192 : decode cX11_does 192 = .ok (.bipush 36, 2) := by decide +kernel
theorem dX11_does_194 : decode cX11_does 194 = .ok (.bipush 37, 2) := by decide +kernel
theorem dX11_does_196 : decode cX11_does 196 = .ok (.invokestatic 177, 3) := by decide +kernel
theorem dX11_does_199 : decode cX11_does 199 = .ok (.iload_n 2, 1) := by decide +kernel
theorem dX11_does_200 : decode cX11_does 200 = .ok (.bipush 6, 2) := by decide +kernel
theorem dX11_does_202 : decode cX11_does 202 = .ok (.if_icmp .ne 65, 3) := by decide +kernel
theorem dX11_does_205 : decode cX11_does 205 = .ok (.iload_n 3, 1) := by decide +kernel
theorem dX11_does_206 : decode cX11_does 206 = .ok (.istore 5, 2) := by decide +kernel
theorem dX11_does_208 : decode cX11_does 208 = .ok (.iload 5, 2) := by decide +kernel
theorem dX11_does_210 : decode cX11_does 210 = .ok (.iconst 5, 1) := by decide +kernel
theorem dX11_does_211 : decode cX11_does 211 = .ok (.if_icmp .ge 48, 3) := by decide +kernel
theorem dX11_does_214 : decode cX11_does 214 = .ok (.iconst 0, 1) := by decide +kernel
theorem dX11_does_215 : decode cX11_does 215 = .ok (.istore 6, 2) := by decide +kernel
theorem dX11_does_217 : decode cX11_does 217 = .ok (.iload 6, 2) := by decide +kernel
theorem dX11_does_219 : decode cX11_does 219 = .ok (.bipush 6, 2) := by decide +kernel
theorem dX11_does_221 : decode cX11_does 221 = .ok (.if_icmp .ge 32, 3) := by decide +kernel
theorem dX11_does_224 : decode cX11_does 224 = .ok (.aload_n 1, 1) := by decide +kernel
theorem dX11_does_225 : decode cX11_does 225 = .ok (.bipush 6, 2) := by decide +kernel
theorem dX11_does_227 : decode cX11_does 227 = .ok (.iload 5, 2) := by decide +kernel
theorem dX11_does_229 : decode cX11_does 229 = .ok (.imul, 1) := by decide +kernel
theorem dX11_does_230 : decode cX11_does 230 = .ok (.iload 6, 2) := by decide +kernel
theorem dX11_does_232 : decode cX11_does 232 = .ok (.iadd, 1) := by decide +kernel
theorem dX11_does_233 : decode cX11_does 233 = .ok (.aload_n 1, 1) := by decide +kernel
theorem dX11_does_234 : decode cX11_does 234 = .ok (.bipush 6, 2) := by decide +kernel
theorem dX11_does_236 : decode cX11_does 236 = .ok (.iload 5, 2) := by decide +kernel
theorem dX11_does_238 : decode cX11_does 238 = .ok (.imul, 1) := by decide +kernel
theorem dX11_does_239 : decode cX11_does 239 = .ok (.bipush 6, 2) := by decide +kernel
theorem dX11_does_241 : decode cX11_does 241 = .ok (.iadd, 1) := by decide +kernel
theorem dX11_does_242 : decode cX11_does 242 = .ok (.iload 6, 2) := by decide +kernel
theorem dX11_does_244 : decode cX11_does 244 = .ok (.iadd, 1) := by decide +kernel
theorem dX11_does_245 : decode cX11_does 245 = .ok (.iaload, 1) := by decide +kernel
theorem dX11_does_246 : decode cX11_does 246 = .ok (.iastore, 1) := by decide +kernel
theorem dX11_does_247 : decode cX11_does 247 = .ok (.iinc 6 1, 3) := by decide +kernel
theorem dX11_does_250 : decode cX11_does 250 = .ok (.goto (-33), 3) := by decide +kernel
theorem dX11_does_253 : decode cX11_does 253 = .ok (.iinc 5 1, 3) := by decide +kernel
theorem dX11_does_256 : decode cX11_does 256 = .ok (.goto (-48), 3) := by decide +kernel
theorem dX11_does_259 : decode cX11_does 259 = .ok (.aload_n 1, 1) := by decide +kernel
theorem dX11_does_260 : decode cX11_does 260 = .ok (.bipush 36, 2) := by decide +kernel
theorem dX11_does_262 : decode cX11_does 262 = .ok (.dup2, 1) := by decide +kernel
theorem dX11_does_263 : decode cX11_does 263 = .ok (.iaload, 1) := by decide +kernel
theorem dX11_does_264 : decode cX11_does 264 = .ok (.iconst 1, 1) := by decide +kernel
theorem dX11_does_265 : decode cX11_does 265 = .ok (.isub, 1) := by decide +kernel
theorem dX11_does_266 : decode cX11_does 266 = .ok (.iastore, 1) := by decide +kernel
theorem dX11_does_267 : decode cX11_does 267 = .ok (.iload_n 2, 1) := by decide +kernel
theorem dX11_does_268 : decode cX11_does 268 = .ok (.bipush 7, 2) := by decide +kernel
theorem dX11_does_270 : decode cX11_does 270 = .ok (.if_icmp .ne 64, 3) := by decide +kernel
theorem dX11_does_273 : decode cX11_does 273 = .ok (.iconst 0, 1) := by decide +kernel
theorem dX11_does_274 : decode cX11_does 274 = .ok (.istore 5, 2) := by decide +kernel
theorem dX11_does_276 : decode cX11_does 276 = .ok (.iload 5, 2) := by decide +kernel
theorem dX11_does_278 : decode cX11_does 278 = .ok (.bipush 6, 2) := by decide +kernel
theorem dX11_does_280 : decode cX11_does 280 = .ok (.if_icmp .ge 46, 3) := by decide +kernel
theorem dX11_does_283 : decode cX11_does 283 = .ok (.iload_n 3, 1) := by decide +kernel
theorem dX11_does_284 : decode cX11_does 284 = .ok (.istore 6, 2) := by decide +kernel
theorem dX11_does_286 : decode cX11_does 286 = .ok (.iload 6, 2) := by decide +kernel
theorem dX11_does_288 : decode cX11_does 288 = .ok (.iconst 5, 1) := by decide +kernel
theorem dX11_does_289 : decode cX11_does 289 = .ok (.if_icmp .ge 31, 3) := by decide +kernel
theorem dX11_does_292 : decode cX11_does 292 = .ok (.aload_n 1, 1) := by decide +kernel
theorem dX11_does_293 : decode cX11_does 293 = .ok (.bipush 6, 2) := by decide +kernel
theorem dX11_does_295 : decode cX11_does 295 = .ok (.iload 5, 2) := by decide +kernel
theorem dX11_does_297 : decode cX11_does 297 = .ok (.imul, 1) := by decide +kernel
theorem dX11_does_298 : decode cX11_does 298 = .ok (.iload 6, 2) := by decide +kernel
theorem dX11_does_300 : decode cX11_does 300 = .ok (.iadd, 1) := by decide +kernel
theorem dX11_does_301 : decode cX11_does 301 = .ok (.aload_n 1, 1) := by decide +kernel
theorem dX11_does_302 : decode cX11_does 302 = .ok (.bipush 6, 2) := by decide +kernel
theorem dX11_does_304 : decode cX11_does 304 = .ok (.iload 5, 2) := by decide +kernel
theorem dX11_does_306 : decode cX11_does 306 = .ok (.imul, 1) := by decide +kernel
theorem dX11_does_307 : decode cX11_does 307 = .ok (.iload 6, 2) := by decide +kernel
theorem dX11_does_309 : decode cX11_does 309 = .ok (.iadd, 1) := by decide +kernel
theorem dX11_does_310 : decode cX11_does 310 = .ok (.iconst 1, 1) := by decide +kernel
theorem dX11_does_311 : decode cX11_does 311 = .ok (.iadd, 1) := by decide +kernel
theorem dX11_does_312 : decode cX11_does 312 = .ok (.iaload, 1) := by decide +kernel
theorem dX11_does_313 : decode cX11_does 313 = .ok (.iastore, 1) := by decide +kernel
theorem dX11_does_314 : decode cX11_does 314 = .ok (.iinc 6 1, 3) := by decide +kernel
theorem dX11_does_317 : decode cX11_does 317 = .ok (.goto (-31), 3) := by decide +kernel
theorem dX11_does_320 : decode cX11_does 320 = .ok (.iinc 5 1, 3) := by decide +kernel
theorem dX11_does_323 : decode cX11_does 323 = .ok (.goto (-47), 3) := by decide +kernel
theorem dX11_does_326 : decode cX11_does 326 = .ok (.aload_n 1, 1) := by decide +kernel
theorem dX11_does_327 : decode cX11_does 327 = .ok (.bipush 37, 2) := by decide +kernel
theorem dX11_does_329 : decode cX11_does 329 = .ok (.dup2, 1) := by decide +kernel
theorem dX11_does_330 : decode cX11_does 330 = .ok (.iaload, 1) := by decide +kernel
theorem dX11_does_331 : decode cX11_does 331 = .ok (.iconst 1, 1) := by decide +kernel
theorem dX11_does_332 : decode cX11_does 332 = .ok (.isub, 1) := by decide +kernel
theorem dX11_does_333 : decode cX11_does 333 = .ok (.iastore, 1) := by decide +kernel
theorem dX11_does_334 : decode cX11_does 334 = .ok (.return_, 1) := by decide +kernel
theorem s_does0 (σ : sg) (x : aW) (t : Nat) (ht : LY t (0, 38, [])) (hne : t ≠ i_m_trial) (T : tb) (hT0 : TB (σ.2.2 t) T) (a : Nat) (ha : a < T.1) (b : Int32) :
    Mt mX11_does 2 0 0 [.ref i_M, .ref t, .int (nI 0), .int (nI a), .int b] (wd σ x) (fun q w => q = none ∧ ∃ g h : Nat → Int32, w = wd (sA (sA σ i_m_trial h) t g) x ∧ TB g (doA 0 a 0 T)) := by
  refine Mt.of MI_X11_does (Nat.le_of_ble_eq_true rfl) (fun X hC hR hT => ?_)
  obtain ⟨hR1, hC1, hR6, hC6, hE⟩ := id hT0
  have hsf : ∀ g, sA σ t g = sA (sA σ i_m_trial (σ.2.2 i_m_trial)) t g := fun g => by rw [sA_self]
  have key : ∀ n, n ≤ 6 → ∀ g, grid g (σ.2.2 t) (fun i j => if i = a ∧ j < n then -(σ.2.2 t (6 * i + j)) else σ.2.2 t (6 * i + j)) → ∀ u6, Rw mX11_does X 3 [some (.ref i_M), some (.ref t), some (.int (nI 0)), some (.int (nI a)), some (.int b), some (.int (nI n)), u6] [] (wd (sA σ t g) x) 0 0 := by
    refine up_loop 6 ?_ ?_
    · intro g hg u6
      refine R_iload hC dX11_does_3 rfl (R_bipush (v := 6) hC dX11_does_5 (by decide) ?_)
      refine R_icmp_ge hC 111 dX11_does_7 (by decide) (fun _ => ?_) (fun h => absurd (by decide) h)
      refine R_iload_n (i := 2) hC dX11_does_111 rfl rfl (R_iconst (v := 4) hC dX11_does_112 (by decide) ?_)
      refine R_icmp_ne hC 134 dX11_does_113 (by decide) (fun _ => ?_) (fun h => absurd h (by decide))
      refine R_iload_n (i := 2) hC dX11_does_134 rfl rfl (R_iconst (v := 5) hC dX11_does_135 (by decide) ?_)
      refine R_icmp_ne hC 199 dX11_does_136 (by decide) (fun _ => ?_) (fun h => absurd h (by decide))
      refine R_iload_n (i := 2) hC dX11_does_199 rfl rfl (R_bipush (v := 6) hC dX11_does_200 (by decide) ?_)
      refine R_icmp_ne hC 267 dX11_does_202 (by decide) (fun _ => ?_) (fun h => absurd h (by decide))
      refine R_iload_n (i := 2) hC dX11_does_267 rfl rfl (R_bipush (v := 7) hC dX11_does_268 (by decide) ?_)
      refine R_icmp_ne hC 334 dX11_does_270 (by decide) (fun _ => ?_) (fun h => absurd h (by decide))
      exact R_vret hC hT dX11_does_334 rfl ⟨rfl, g, _, by rw [hsf], (hg.TB (f := fun i j => if i = a then -(T.2.2 i j) else T.2.2 i j) hR1 hC1 hR6 hC6 (fun i j hi hj e => by rw [if_pos e.1, (hE i j hi hj).1]; exact ⟨rfl, sml_neg (hE i j hi hj).2⟩) (fun i j hi hj e => by rw [if_neg (by omega)]; exact hE i j hi hj))⟩
    · intro n hn ih g hg u6
      refine R_iload hC dX11_does_3 rfl (R_bipush (v := 6) hC dX11_does_5 (by decide) ?_)
      refine R_icmp_ge hC 111 dX11_does_7 (by decide) (fun h => absurd h (nI_ge (b := 6) hn (by decide))) (fun _ => ?_)
      refine R_iload_n (i := 2) hC dX11_does_10 rfl rfl ?_
      refine R_if_ne hC 33 dX11_does_11 (by decide) (fun h => absurd rfl h) (fun _ => ?_)
      refine R_aload_n (i := 1) hC dX11_does_14 rfl rfl (R_bipush (v := 6) hC dX11_does_15 (by decide) (R_iload_n (i := 3) hC dX11_does_17 rfl rfl (R_imul hC dX11_does_18 (R_iload hC dX11_does_19 rfl (R_iadd hC dX11_does_21 (R_aload_n (i := 1) hC dX11_does_22 rfl rfl (R_bipush (v := 6) hC dX11_does_23 (by decide) ?_)))))))
      refine R_iload_n (i := 3) hC dX11_does_25 rfl rfl (R_imul hC dX11_does_26 (R_iload hC dX11_does_27 rfl (R_iadd hC dX11_does_29 (R_aI hC dX11_does_30 ht (6 * a + n) (n6 a n) (by omega) (by decide) (R_ineg hC dX11_does_31 (R_sI hC dX11_does_32 ht (6 * a + n) (n6 a n) (by omega) (by decide) ?_))))))
      refine R_wd (by rw [sA_eq, sA_sA]) ?_
      refine R_iload_n (i := 2) hC dX11_does_33 rfl rfl (R_iconst (v := 1) hC dX11_does_34 (by decide) ?_)
      refine R_icmp_ne hC 57 dX11_does_35 (by decide) (fun _ => ?_) (fun h => absurd h (by decide))
      refine R_iload_n (i := 2) hC dX11_does_57 rfl rfl (R_iconst (v := 2) hC dX11_does_58 (by decide) ?_)
      refine R_icmp_ne hC 81 dX11_does_59 (by decide) (fun _ => ?_) (fun h => absurd h (by decide))
      refine R_iload_n (i := 2) hC dX11_does_81 rfl rfl (R_iconst (v := 3) hC dX11_does_82 (by decide) ?_)
      refine R_icmp_ne hC 105 dX11_does_83 (by decide) (fun _ => ?_) (fun h => absurd h (by decide))
      refine R_iinc hC dX11_does_105 rfl (inc1 _) (by decide) rfl (R_goto hC 3 dX11_does_108 (by decide) ?_)
      exact ih _ (hg.put (a := a) (b := n) (p2 := fun i j => i = a ∧ j < n + 1) (by omega) hn (by rw [hg.2.2 a n (by omega) hn]; exact congrArg (fun z => -z) (if_neg (by omega))) (fun i j hi hj => by omega)) _
  refine R_iconst (v := 0) hC dX11_does_0 (by decide) (R_istore hC dX11_does_1 (by decide) rfl ?_)
  (refine R_wd (τ := sA σ t (σ.2.2 t)) (by rw [sA_self]) ?_; exact key 0 (by decide) _ (grid.init (fun i j _ _ => by omega)) _)
theorem s_does1 (σ : sg) (x : aW) (t : Nat) (ht : LY t (0, 38, [])) (hne : t ≠ i_m_trial) (T : tb) (hT0 : TB (σ.2.2 t) T) (a : Nat) (ha : a < T.2.1) (b : Int32) :
    Mt mX11_does 2 0 0 [.ref i_M, .ref t, .int (nI 1), .int (nI a), .int b] (wd σ x) (fun q w => q = none ∧ ∃ g h : Nat → Int32, w = wd (sA (sA σ i_m_trial h) t g) x ∧ TB g (doA 1 a 0 T)) := by
  refine Mt.of MI_X11_does (Nat.le_of_ble_eq_true rfl) (fun X hC hR hT => ?_)
  obtain ⟨hR1, hC1, hR6, hC6, hE⟩ := id hT0
  have hsf : ∀ g, sA σ t g = sA (sA σ i_m_trial (σ.2.2 i_m_trial)) t g := fun g => by rw [sA_self]
  have key : ∀ n, n ≤ 6 → ∀ g, grid g (σ.2.2 t) (fun i j => if j = a ∧ i < n then -(σ.2.2 t (6 * i + j)) else σ.2.2 t (6 * i + j)) → ∀ u6, Rw mX11_does X 3 [some (.ref i_M), some (.ref t), some (.int (nI 1)), some (.int (nI a)), some (.int b), some (.int (nI n)), u6] [] (wd (sA σ t g) x) 0 0 := by
    refine up_loop 6 ?_ ?_
    · intro g hg u6
      refine R_iload hC dX11_does_3 rfl (R_bipush (v := 6) hC dX11_does_5 (by decide) ?_)
      refine R_icmp_ge hC 111 dX11_does_7 (by decide) (fun _ => ?_) (fun h => absurd (by decide) h)
      refine R_iload_n (i := 2) hC dX11_does_111 rfl rfl (R_iconst (v := 4) hC dX11_does_112 (by decide) ?_)
      refine R_icmp_ne hC 134 dX11_does_113 (by decide) (fun _ => ?_) (fun h => absurd h (by decide))
      refine R_iload_n (i := 2) hC dX11_does_134 rfl rfl (R_iconst (v := 5) hC dX11_does_135 (by decide) ?_)
      refine R_icmp_ne hC 199 dX11_does_136 (by decide) (fun _ => ?_) (fun h => absurd h (by decide))
      refine R_iload_n (i := 2) hC dX11_does_199 rfl rfl (R_bipush (v := 6) hC dX11_does_200 (by decide) ?_)
      refine R_icmp_ne hC 267 dX11_does_202 (by decide) (fun _ => ?_) (fun h => absurd h (by decide))
      refine R_iload_n (i := 2) hC dX11_does_267 rfl rfl (R_bipush (v := 7) hC dX11_does_268 (by decide) ?_)
      refine R_icmp_ne hC 334 dX11_does_270 (by decide) (fun _ => ?_) (fun h => absurd h (by decide))
      exact R_vret hC hT dX11_does_334 rfl ⟨rfl, g, _, by rw [hsf], (hg.TB (f := fun i j => if j = a then -(T.2.2 i j) else T.2.2 i j) hR1 hC1 hR6 hC6 (fun i j hi hj e => by rw [if_pos e.1, (hE i j hi hj).1]; exact ⟨rfl, sml_neg (hE i j hi hj).2⟩) (fun i j hi hj e => by rw [if_neg (by omega)]; exact hE i j hi hj))⟩
    · intro n hn ih g hg u6
      refine R_iload hC dX11_does_3 rfl (R_bipush (v := 6) hC dX11_does_5 (by decide) ?_)
      refine R_icmp_ge hC 111 dX11_does_7 (by decide) (fun h => absurd h (nI_ge (b := 6) hn (by decide))) (fun _ => ?_)
      refine R_iload_n (i := 2) hC dX11_does_10 rfl rfl ?_
      refine R_if_ne hC 33 dX11_does_11 (by decide) (fun _ => ?_) (fun h => absurd h (by decide))
      refine R_iload_n (i := 2) hC dX11_does_33 rfl rfl (R_iconst (v := 1) hC dX11_does_34 (by decide) ?_)
      refine R_icmp_ne hC 57 dX11_does_35 (by decide) (fun h => absurd rfl h) (fun _ => ?_)
      refine R_aload_n (i := 1) hC dX11_does_38 rfl rfl (R_bipush (v := 6) hC dX11_does_39 (by decide) (R_iload hC dX11_does_41 rfl (R_imul hC dX11_does_43 (R_iload_n (i := 3) hC dX11_does_44 rfl rfl (R_iadd hC dX11_does_45 (R_aload_n (i := 1) hC dX11_does_46 rfl rfl (R_bipush (v := 6) hC dX11_does_47 (by decide) ?_)))))))
      refine R_iload hC dX11_does_49 rfl (R_imul hC dX11_does_51 (R_iload_n (i := 3) hC dX11_does_52 rfl rfl (R_iadd hC dX11_does_53 (R_aI hC dX11_does_54 ht (6 * n + a) (n6 n a) (by omega) (by decide) (R_ineg hC dX11_does_55 (R_sI hC dX11_does_56 ht (6 * n + a) (n6 n a) (by omega) (by decide) ?_))))))
      refine R_wd (by rw [sA_eq, sA_sA]) ?_
      refine R_iload_n (i := 2) hC dX11_does_57 rfl rfl (R_iconst (v := 2) hC dX11_does_58 (by decide) ?_)
      refine R_icmp_ne hC 81 dX11_does_59 (by decide) (fun _ => ?_) (fun h => absurd h (by decide))
      refine R_iload_n (i := 2) hC dX11_does_81 rfl rfl (R_iconst (v := 3) hC dX11_does_82 (by decide) ?_)
      refine R_icmp_ne hC 105 dX11_does_83 (by decide) (fun _ => ?_) (fun h => absurd h (by decide))
      refine R_iinc hC dX11_does_105 rfl (inc1 _) (by decide) rfl (R_goto hC 3 dX11_does_108 (by decide) ?_)
      exact ih _ (hg.put (a := n) (b := a) (p2 := fun i j => j = a ∧ i < n + 1) hn (by omega) (by rw [hg.2.2 n a hn (by omega)]; exact congrArg (fun z => -z) (if_neg (by omega))) (fun i j hi hj => by omega)) _
  refine R_iconst (v := 0) hC dX11_does_0 (by decide) (R_istore hC dX11_does_1 (by decide) rfl ?_)
  (refine R_wd (τ := sA σ t (σ.2.2 t)) (by rw [sA_self]) ?_; exact key 0 (by decide) _ (grid.init (fun i j _ _ => by omega)) _)
theorem s_does2 (σ : sg) (x : aW) (t : Nat) (ht : LY t (0, 38, [])) (hne : t ≠ i_m_trial) (T : tb) (hT0 : TB (σ.2.2 t) T) (a b : Nat) (ha : a < T.1) (hb : b < T.1) (hab : a ≠ b) :
    Mt mX11_does 2 0 0 [.ref i_M, .ref t, .int (nI 2), .int (nI a), .int (nI b)] (wd σ x) (fun q w => q = none ∧ ∃ g h : Nat → Int32, w = wd (sA (sA σ i_m_trial h) t g) x ∧ TB g (doA 2 a b T)) := by
  refine Mt.of MI_X11_does (Nat.le_of_ble_eq_true rfl) (fun X hC hR hT => ?_)
  obtain ⟨hR1, hC1, hR6, hC6, hE⟩ := id hT0
  have hsf : ∀ g, sA σ t g = sA (sA σ i_m_trial (σ.2.2 i_m_trial)) t g := fun g => by rw [sA_self]
  have key : ∀ n, n ≤ 6 → ∀ g, grid g (σ.2.2 t) (fun i j => if (i = a ∨ i = b) ∧ j < n then (if i = a then σ.2.2 t (6 * b + j) else σ.2.2 t (6 * a + j)) else σ.2.2 t (6 * i + j)) → ∀ u6, Rw mX11_does X 3 [some (.ref i_M), some (.ref t), some (.int (nI 2)), some (.int (nI a)), some (.int (nI b)), some (.int (nI n)), u6] [] (wd (sA σ t g) x) 0 0 := by
    refine up_loop 6 ?_ ?_
    · intro g hg u6
      refine R_iload hC dX11_does_3 rfl (R_bipush (v := 6) hC dX11_does_5 (by decide) ?_)
      refine R_icmp_ge hC 111 dX11_does_7 (by decide) (fun _ => ?_) (fun h => absurd (by decide) h)
      refine R_iload_n (i := 2) hC dX11_does_111 rfl rfl (R_iconst (v := 4) hC dX11_does_112 (by decide) ?_)
      refine R_icmp_ne hC 134 dX11_does_113 (by decide) (fun _ => ?_) (fun h => absurd h (by decide))
      refine R_iload_n (i := 2) hC dX11_does_134 rfl rfl (R_iconst (v := 5) hC dX11_does_135 (by decide) ?_)
      refine R_icmp_ne hC 199 dX11_does_136 (by decide) (fun _ => ?_) (fun h => absurd h (by decide))
      refine R_iload_n (i := 2) hC dX11_does_199 rfl rfl (R_bipush (v := 6) hC dX11_does_200 (by decide) ?_)
      refine R_icmp_ne hC 267 dX11_does_202 (by decide) (fun _ => ?_) (fun h => absurd h (by decide))
      refine R_iload_n (i := 2) hC dX11_does_267 rfl rfl (R_bipush (v := 7) hC dX11_does_268 (by decide) ?_)
      refine R_icmp_ne hC 334 dX11_does_270 (by decide) (fun _ => ?_) (fun h => absurd h (by decide))
      exact R_vret hC hT dX11_does_334 rfl ⟨rfl, g, _, by rw [hsf], (hg.TB (f := fun i j => if i = a then T.2.2 b j else if i = b then T.2.2 a j else T.2.2 i j) hR1 hC1 hR6 hC6 (fun i j hi hj e => by
      by_cases q : i = a
      · rw [if_pos q, if_pos q]; exact hE b j hb hj
      · rw [if_neg q, if_neg q, if_pos (by omega)]; exact hE a j ha hj) (fun i j hi hj e => by rw [if_neg (by omega), if_neg (by omega)]; exact hE i j hi hj))⟩
    · intro n hn ih g hg u6
      refine R_iload hC dX11_does_3 rfl (R_bipush (v := 6) hC dX11_does_5 (by decide) ?_)
      refine R_icmp_ge hC 111 dX11_does_7 (by decide) (fun h => absurd h (nI_ge (b := 6) hn (by decide))) (fun _ => ?_)
      refine R_iload_n (i := 2) hC dX11_does_10 rfl rfl ?_
      refine R_if_ne hC 33 dX11_does_11 (by decide) (fun _ => ?_) (fun h => absurd h (by decide))
      refine R_iload_n (i := 2) hC dX11_does_33 rfl rfl (R_iconst (v := 1) hC dX11_does_34 (by decide) ?_)
      refine R_icmp_ne hC 57 dX11_does_35 (by decide) (fun _ => ?_) (fun h => absurd h (by decide))
      refine R_iload_n (i := 2) hC dX11_does_57 rfl rfl (R_iconst (v := 2) hC dX11_does_58 (by decide) ?_)
      refine R_icmp_ne hC 81 dX11_does_59 (by decide) (fun h => absurd rfl h) (fun _ => ?_)
      refine R_aload_n (i := 1) hC dX11_does_62 rfl rfl (R_bipush (v := 6) hC dX11_does_63 (by decide) (R_iload_n (i := 3) hC dX11_does_65 rfl rfl (R_imul hC dX11_does_66 (R_iload hC dX11_does_67 rfl (R_iadd hC dX11_does_69 ?_)))))
      refine R_top (n6 a n) ?_
      refine R_bipush (v := 6) hC dX11_does_70 (by decide) (R_iload hC dX11_does_72 rfl (R_imul hC dX11_does_74 (R_iload hC dX11_does_75 rfl (R_iadd hC dX11_does_77 ?_))))
      refine R_top (n6 b n) ?_
      refine R_S3v hC hR dX11_does_78 MS_X11_swaps ml_X11_177 (s_swaps _ _ _ ht (6 * a + n) (6 * b + n) (by omega) (by omega)) (by decide) ⟨by decide, by decide⟩ (Nat.le_of_ble_eq_true rfl) ?_
      refine R_wd (by rw [sA_eq, sA_sA]) ?_
      refine R_iload_n (i := 2) hC dX11_does_81 rfl rfl (R_iconst (v := 3) hC dX11_does_82 (by decide) ?_)
      refine R_icmp_ne hC 105 dX11_does_83 (by decide) (fun _ => ?_) (fun h => absurd h (by decide))
      refine R_iinc hC dX11_does_105 rfl (inc1 _) (by decide) rfl (R_goto hC 3 dX11_does_108 (by decide) ?_)
      exact ih _ (hg.put2 (a := a) (b := n) (c := b) (d := n) (p2 := fun i j => (i = a ∨ i = b) ∧ j < n + 1) (by omega) hn (by omega) hn (by rw [hg.2.2 b n (by omega) hn, if_pos rfl]; exact if_neg (by omega)) (by rw [hg.2.2 a n (by omega) hn, if_neg (Ne.symm hab)]; exact if_neg (by omega)) (fun i j hi hj => by omega)) _
  refine R_iconst (v := 0) hC dX11_does_0 (by decide) (R_istore hC dX11_does_1 (by decide) rfl ?_)
  (refine R_wd (τ := sA σ t (σ.2.2 t)) (by rw [sA_self]) ?_; exact key 0 (by decide) _ (grid.init (fun i j _ _ => by omega)) _)
theorem s_does3 (σ : sg) (x : aW) (t : Nat) (ht : LY t (0, 38, [])) (hne : t ≠ i_m_trial) (T : tb) (hT0 : TB (σ.2.2 t) T) (a b : Nat) (ha : a < T.2.1) (hb : b < T.2.1) (hab : a ≠ b) :
    Mt mX11_does 2 0 0 [.ref i_M, .ref t, .int (nI 3), .int (nI a), .int (nI b)] (wd σ x) (fun q w => q = none ∧ ∃ g h : Nat → Int32, w = wd (sA (sA σ i_m_trial h) t g) x ∧ TB g (doA 3 a b T)) := by
  refine Mt.of MI_X11_does (Nat.le_of_ble_eq_true rfl) (fun X hC hR hT => ?_)
  obtain ⟨hR1, hC1, hR6, hC6, hE⟩ := id hT0
  have hsf : ∀ g, sA σ t g = sA (sA σ i_m_trial (σ.2.2 i_m_trial)) t g := fun g => by rw [sA_self]
  have key : ∀ n, n ≤ 6 → ∀ g, grid g (σ.2.2 t) (fun i j => if (j = a ∨ j = b) ∧ i < n then (if j = a then σ.2.2 t (6 * i + b) else σ.2.2 t (6 * i + a)) else σ.2.2 t (6 * i + j)) → ∀ u6, Rw mX11_does X 3 [some (.ref i_M), some (.ref t), some (.int (nI 3)), some (.int (nI a)), some (.int (nI b)), some (.int (nI n)), u6] [] (wd (sA σ t g) x) 0 0 := by
    refine up_loop 6 ?_ ?_
    · intro g hg u6
      refine R_iload hC dX11_does_3 rfl (R_bipush (v := 6) hC dX11_does_5 (by decide) ?_)
      refine R_icmp_ge hC 111 dX11_does_7 (by decide) (fun _ => ?_) (fun h => absurd (by decide) h)
      refine R_iload_n (i := 2) hC dX11_does_111 rfl rfl (R_iconst (v := 4) hC dX11_does_112 (by decide) ?_)
      refine R_icmp_ne hC 134 dX11_does_113 (by decide) (fun _ => ?_) (fun h => absurd h (by decide))
      refine R_iload_n (i := 2) hC dX11_does_134 rfl rfl (R_iconst (v := 5) hC dX11_does_135 (by decide) ?_)
      refine R_icmp_ne hC 199 dX11_does_136 (by decide) (fun _ => ?_) (fun h => absurd h (by decide))
      refine R_iload_n (i := 2) hC dX11_does_199 rfl rfl (R_bipush (v := 6) hC dX11_does_200 (by decide) ?_)
      refine R_icmp_ne hC 267 dX11_does_202 (by decide) (fun _ => ?_) (fun h => absurd h (by decide))
      refine R_iload_n (i := 2) hC dX11_does_267 rfl rfl (R_bipush (v := 7) hC dX11_does_268 (by decide) ?_)
      refine R_icmp_ne hC 334 dX11_does_270 (by decide) (fun _ => ?_) (fun h => absurd h (by decide))
      exact R_vret hC hT dX11_does_334 rfl ⟨rfl, g, _, by rw [hsf], (hg.TB (f := fun i j => if j = a then T.2.2 i b else if j = b then T.2.2 i a else T.2.2 i j) hR1 hC1 hR6 hC6 (fun i j hi hj e => by
      by_cases q : j = a
      · rw [if_pos q, if_pos q]; exact hE i b hi hb
      · rw [if_neg q, if_neg q, if_pos (by omega)]; exact hE i a hi ha) (fun i j hi hj e => by rw [if_neg (by omega), if_neg (by omega)]; exact hE i j hi hj))⟩
    · intro n hn ih g hg u6
      refine R_iload hC dX11_does_3 rfl (R_bipush (v := 6) hC dX11_does_5 (by decide) ?_)
      refine R_icmp_ge hC 111 dX11_does_7 (by decide) (fun h => absurd h (nI_ge (b := 6) hn (by decide))) (fun _ => ?_)
      refine R_iload_n (i := 2) hC dX11_does_10 rfl rfl ?_
      refine R_if_ne hC 33 dX11_does_11 (by decide) (fun _ => ?_) (fun h => absurd h (by decide))
      refine R_iload_n (i := 2) hC dX11_does_33 rfl rfl (R_iconst (v := 1) hC dX11_does_34 (by decide) ?_)
      refine R_icmp_ne hC 57 dX11_does_35 (by decide) (fun _ => ?_) (fun h => absurd h (by decide))
      refine R_iload_n (i := 2) hC dX11_does_57 rfl rfl (R_iconst (v := 2) hC dX11_does_58 (by decide) ?_)
      refine R_icmp_ne hC 81 dX11_does_59 (by decide) (fun _ => ?_) (fun h => absurd h (by decide))
      refine R_iload_n (i := 2) hC dX11_does_81 rfl rfl (R_iconst (v := 3) hC dX11_does_82 (by decide) ?_)
      refine R_icmp_ne hC 105 dX11_does_83 (by decide) (fun h => absurd rfl h) (fun _ => ?_)
      refine R_aload_n (i := 1) hC dX11_does_86 rfl rfl (R_bipush (v := 6) hC dX11_does_87 (by decide) (R_iload hC dX11_does_89 rfl (R_imul hC dX11_does_91 (R_iload_n (i := 3) hC dX11_does_92 rfl rfl (R_iadd hC dX11_does_93 ?_)))))
      refine R_top (n6 n a) ?_
      refine R_bipush (v := 6) hC dX11_does_94 (by decide) (R_iload hC dX11_does_96 rfl (R_imul hC dX11_does_98 (R_iload hC dX11_does_99 rfl (R_iadd hC dX11_does_101 ?_))))
      refine R_top (n6 n b) ?_
      refine R_S3v hC hR dX11_does_102 MS_X11_swaps ml_X11_177 (s_swaps _ _ _ ht (6 * n + a) (6 * n + b) (by omega) (by omega)) (by decide) ⟨by decide, by decide⟩ (Nat.le_of_ble_eq_true rfl) ?_
      refine R_wd (by rw [sA_eq, sA_sA]) ?_
      refine R_iinc hC dX11_does_105 rfl (inc1 _) (by decide) rfl (R_goto hC 3 dX11_does_108 (by decide) ?_)
      exact ih _ (hg.put2 (a := n) (b := a) (c := n) (d := b) (p2 := fun i j => (j = a ∨ j = b) ∧ i < n + 1) hn (by omega) hn (by omega) (by rw [hg.2.2 n b hn (by omega), if_pos rfl]; exact if_neg (by omega)) (by rw [hg.2.2 n a hn (by omega), if_neg (Ne.symm hab)]; exact if_neg (by omega)) (fun i j hi hj => by omega)) _
  refine R_iconst (v := 0) hC dX11_does_0 (by decide) (R_istore hC dX11_does_1 (by decide) rfl ?_)
  (refine R_wd (τ := sA σ t (σ.2.2 t)) (by rw [sA_self]) ?_; exact key 0 (by decide) _ (grid.init (fun i j _ _ => by omega)) _)
theorem s_does4 (σ : sg) (x : aW) (t : Nat) (ht : LY t (0, 38, [])) (hne : t ≠ i_m_trial) (T : tb) (hT0 : TB (σ.2.2 t) T) (a b : Nat) (ha : a < T.1) (hb : b < T.2.1) (hok : ∀ i j, i < T.1 → j < T.2.1 → sml (tturn a b T.2.2 i j)) :
    Mt mX11_does 2 0 0 [.ref i_M, .ref t, .int (nI 4), .int (nI a), .int (nI b)] (wd σ x) (fun q w => q = none ∧ ∃ g h : Nat → Int32, w = wd (sA (sA σ i_m_trial h) t g) x ∧ TB g (doA 4 a b T)) := by
  refine Mt.of MI_X11_does (Nat.le_of_ble_eq_true rfl) (fun X hC hR hT => ?_)
  obtain ⟨hR1, hC1, hR6, hC6, hE⟩ := id hT0
  have hsf : ∀ g, sA σ t g = sA (sA σ i_m_trial (σ.2.2 i_m_trial)) t g := fun g => by rw [sA_self]
  have kb : ∀ u5 u6, Rw mX11_does X 111 [some (.ref i_M), some (.ref t), some (.int (nI 4)), some (.int (nI a)), some (.int (nI b)), u5, u6] [] (wd σ x) 0 0 := by
    intro u5 u6
    refine R_iload_n (i := 2) hC dX11_does_111 rfl rfl (R_iconst (v := 4) hC dX11_does_112 (by decide) ?_)
    refine R_icmp_ne hC 134 dX11_does_113 (by decide) (fun h => absurd rfl h) (fun _ => ?_)
    refine R_aload_n (i := 0) hC dX11_does_116 rfl rfl (R_aload_n (i := 1) hC dX11_does_117 rfl rfl (R_iload_n (i := 3) hC dX11_does_118 rfl rfl (R_iload hC dX11_does_119 rfl ?_)))
    refine R_V3g hC hR dX11_does_121 MV_X11_canTurn ml_X11_174 L_M rfl (s_canTurn _ _ _ ht hne T hT0 a b ha hb) (by decide) ⟨by decide, by decide⟩ (Nat.le_of_ble_eq_true rfl) (fun r w1 hq => ?_)
    obtain ⟨g, rfl, ⟨-, rfl, hg⟩ | ⟨hno, -⟩⟩ := hq
    case inr => exact absurd hok hno
    refine R_istore hC dX11_does_124 (by decide) rfl (R_aload_n (i := 0) hC dX11_does_126 rfl rfl (R_gR hC dX11_does_127 fl_X11_20 L_M rfl (R_aload_n (i := 1) hC dX11_does_130 rfl rfl ?_)))
    refine R_S2v hC hR dX11_does_131 MS_X11_copy ml_X11_170 (s_copy _ _ _ _ L_m_trial ht (Ne.symm hne)) (by decide) ⟨by decide, by decide⟩ (Nat.le_of_ble_eq_true rfl) ?_
    refine R_iload_n (i := 2) hC dX11_does_134 rfl rfl (R_iconst (v := 5) hC dX11_does_135 (by decide) ?_)
    refine R_icmp_ne hC 199 dX11_does_136 (by decide) (fun _ => ?_) (fun h => absurd h (by decide))
    refine R_iload_n (i := 2) hC dX11_does_199 rfl rfl (R_bipush (v := 6) hC dX11_does_200 (by decide) ?_)
    refine R_icmp_ne hC 267 dX11_does_202 (by decide) (fun _ => ?_) (fun h => absurd h (by decide))
    refine R_iload_n (i := 2) hC dX11_does_267 rfl rfl (R_bipush (v := 7) hC dX11_does_268 (by decide) ?_)
    refine R_icmp_ne hC 334 dX11_does_270 (by decide) (fun _ => ?_) (fun h => absurd h (by decide))
    exact R_vret hC hT dX11_does_334 rfl ⟨rfl, _, g, rfl, by
    obtain ⟨q1, q2, q3, q4, q5⟩ := hg
    refine ⟨?_, ?_, q3, q4, fun i j hi hj => ?_⟩
    · simp only [cpy, sA_eq]; exact q1
    · simp only [cpy, sA_eq]; exact q2
    · have hi2 : i < T.1 := hi
      have hj2 : j < T.2.1 := hj
      simp only [cpy, sA_eq]
      rw [if_pos (by omega)]
      exact q5 i j hi hj⟩
  have key0 : ∀ n, n ≤ 6 → ∀ u6, Rw mX11_does X 3 [some (.ref i_M), some (.ref t), some (.int (nI 4)), some (.int (nI a)), some (.int (nI b)), some (.int (nI n)), u6] [] (wd σ x) 0 0 := by
    refine up_loop 6 ?_ ?_
    · intro u6
      refine R_iload hC dX11_does_3 rfl (R_bipush (v := 6) hC dX11_does_5 (by decide) ?_)
      refine R_icmp_ge hC 111 dX11_does_7 (by decide) (fun _ => ?_) (fun h => absurd (by decide) h)
      exact kb _ _
    · intro n hn ih u6
      refine R_iload hC dX11_does_3 rfl (R_bipush (v := 6) hC dX11_does_5 (by decide) ?_)
      refine R_icmp_ge hC 111 dX11_does_7 (by decide) (fun h => absurd h (nI_ge (b := 6) hn (by decide))) (fun _ => ?_)
      refine R_iload_n (i := 2) hC dX11_does_10 rfl rfl ?_
      refine R_if_ne hC 33 dX11_does_11 (by decide) (fun _ => ?_) (fun h => absurd h (by decide))
      refine R_iload_n (i := 2) hC dX11_does_33 rfl rfl (R_iconst (v := 1) hC dX11_does_34 (by decide) ?_)
      refine R_icmp_ne hC 57 dX11_does_35 (by decide) (fun _ => ?_) (fun h => absurd h (by decide))
      refine R_iload_n (i := 2) hC dX11_does_57 rfl rfl (R_iconst (v := 2) hC dX11_does_58 (by decide) ?_)
      refine R_icmp_ne hC 81 dX11_does_59 (by decide) (fun _ => ?_) (fun h => absurd h (by decide))
      refine R_iload_n (i := 2) hC dX11_does_81 rfl rfl (R_iconst (v := 3) hC dX11_does_82 (by decide) ?_)
      refine R_icmp_ne hC 105 dX11_does_83 (by decide) (fun _ => ?_) (fun h => absurd h (by decide))
      refine R_iinc hC dX11_does_105 rfl (inc1 _) (by decide) rfl (R_goto hC 3 dX11_does_108 (by decide) ?_)
      exact ih _
  refine R_iconst (v := 0) hC dX11_does_0 (by decide) (R_istore hC dX11_does_1 (by decide) rfl ?_)
  exact key0 0 (by decide) _
theorem s_does5 (σ : sg) (x : aW) (t : Nat) (ht : LY t (0, 38, [])) (hne : t ≠ i_m_trial) (T : tb) (hT0 : TB (σ.2.2 t) T) (a b : Int32) :
    Mt mX11_does 2 0 0 [.ref i_M, .ref t, .int (nI 5), .int a, .int b] (wd σ x) (fun q w => q = none ∧ ∃ g h : Nat → Int32, w = wd (sA (sA σ i_m_trial h) t g) x ∧ TB g (doA 5 0 0 T)) := by
  refine Mt.of MI_X11_does (Nat.le_of_ble_eq_true rfl) (fun X hC hR hT => ?_)
  obtain ⟨hR1, hC1, hR6, hC6, hE⟩ := id hT0
  have hsf : ∀ g, sA σ t g = sA (sA σ i_m_trial (σ.2.2 i_m_trial)) t g := fun g => by rw [sA_self]
  have outer : ∀ n, n ≤ 6 → ∀ g, grid g (σ.2.2 t) (fun i j => if i < n ∧ j < n then σ.2.2 t (6 * j + i) else σ.2.2 t (6 * i + j)) → ∀ u6, Rw mX11_does X 142 [some (.ref i_M), some (.ref t), some (.int (nI 5)), some (.int a), some (.int b), some (.int (nI n)), u6] [] (wd (sA σ t g) x) 0 0 := by
    refine up_loop 6 ?_ ?_
    · intro g hg u6
      refine R_iload hC dX11_does_142 rfl (R_bipush (v := 6) hC dX11_does_144 (by decide) ?_)
      refine R_icmp_ge hC 191 dX11_does_146 (by decide) (fun _ => ?_) (fun h => absurd (by decide) h)
      refine R_aload_n (i := 1) hC dX11_does_191 rfl rfl (R_bipush (v := 36) hC dX11_does_192 (by decide) (R_bipush (v := 37) hC dX11_does_194 (by decide) ?_))
      refine R_S3v hC hR dX11_does_196 MS_X11_swaps ml_X11_177 (s_swaps _ _ _ ht 36 37 (by decide) (by decide)) (by decide) ⟨by decide, by decide⟩ (Nat.le_of_ble_eq_true rfl) ?_
      refine R_wd (by rw [sA_eq, sA_sA]) ?_
      refine R_iload_n (i := 2) hC dX11_does_199 rfl rfl (R_bipush (v := 6) hC dX11_does_200 (by decide) ?_)
      refine R_icmp_ne hC 267 dX11_does_202 (by decide) (fun _ => ?_) (fun h => absurd h (by decide))
      refine R_iload_n (i := 2) hC dX11_does_267 rfl rfl (R_bipush (v := 7) hC dX11_does_268 (by decide) ?_)
      refine R_icmp_ne hC 334 dX11_does_270 (by decide) (fun _ => ?_) (fun h => absurd h (by decide))
      exact R_vret hC hT dX11_does_334 rfl ⟨rfl, _, _, by rw [hsf], by
      refine ⟨?_, ?_, hC6, hR6, fun i j hi hj => ?_⟩
      · simp only [upd]; rw [hg.2.1]; exact hC1
      · simp only [upd]; rw [hg.1]; exact hR1
      · have hi2 : i < T.2.1 := hi
        have hj2 : j < T.1 := hj
        have e0 : g (6 * i + j) = if i < 6 ∧ j < 6 then σ.2.2 t (6 * j + i) else σ.2.2 t (6 * i + j) := hg.2.2 i j (by omega) (by omega)
        simp only [upd]
        rw [if_neg (by omega), if_neg (by omega), e0, if_pos (by omega)]
        exact hE j i hj2 hi2⟩
    · intro n hn ih g hg u6
      have inner : ∀ k, k ≤ n → ∀ g, grid g (σ.2.2 t) (fun i j => if (i < n ∧ j < n) ∨ (i = n ∧ j < k) ∨ (j = n ∧ i < k) then σ.2.2 t (6 * j + i) else σ.2.2 t (6 * i + j)) → Rw mX11_does X 152 [some (.ref i_M), some (.ref t), some (.int (nI 5)), some (.int a), some (.int b), some (.int (nI n)), some (.int (nI k))] [] (wd (sA σ t g) x) 0 0 := by
        refine up_loop n ?_ ?_
        · intro g hg
          refine R_iload hC dX11_does_152 rfl (R_iload hC dX11_does_154 rfl ?_)
          refine R_icmp_ge hC 185 dX11_does_156 (by decide) (fun _ => ?_) (fun h => absurd (Int32.le_refl _) h)
          refine R_iinc hC dX11_does_185 rfl (inc1 _) (by decide) rfl (R_goto hC 142 dX11_does_188 (by decide) ?_)
          exact ih _ (hg.cond (p2 := fun i j => i < n + 1 ∧ j < n + 1) (fun i j hi hj => by
          by_cases e : i = n ∧ j = n
          · obtain ⟨rfl, rfl⟩ := e; exact Or.inr rfl
          · exact Or.inl (by omega))) _
        · intro k hk ihk g hg
          refine R_iload hC dX11_does_152 rfl (R_iload hC dX11_does_154 rfl ?_)
          refine R_icmp_ge hC 185 dX11_does_156 (by decide) (fun h => absurd h (nI_ge hk (by omega))) (fun _ => ?_)
          refine R_aload_n (i := 1) hC dX11_does_159 rfl rfl (R_bipush (v := 6) hC dX11_does_160 (by decide) (R_iload hC dX11_does_162 rfl (R_imul hC dX11_does_164 (R_iload hC dX11_does_165 rfl (R_iadd hC dX11_does_167 ?_)))))
          refine R_top (n6 n k) ?_
          refine R_bipush (v := 6) hC dX11_does_168 (by decide) (R_iload hC dX11_does_170 rfl (R_imul hC dX11_does_172 (R_iload hC dX11_does_173 rfl (R_iadd hC dX11_does_175 ?_))))
          refine R_top (n6 k n) ?_
          refine R_S3v hC hR dX11_does_176 MS_X11_swaps ml_X11_177 (s_swaps _ _ _ ht (6 * n + k) (6 * k + n) (by omega) (by omega)) (by decide) ⟨by decide, by decide⟩ (Nat.le_of_ble_eq_true rfl) ?_
          refine R_wd (by rw [sA_eq, sA_sA]) ?_
          refine R_iinc hC dX11_does_179 rfl (inc1 _) (by decide) rfl (R_goto hC 152 dX11_does_182 (by decide) ?_)
          exact ihk _ (hg.put2 (a := n) (b := k) (c := k) (d := n) (p2 := fun i j => (i < n ∧ j < n) ∨ (i = n ∧ j < k + 1) ∨ (j = n ∧ i < k + 1)) hn (by omega) (by omega) hn (by rw [hg.2.2 k n (by omega) hn]; exact if_neg (by omega)) (by rw [hg.2.2 n k hn (by omega)]; exact if_neg (by omega)) (fun i j hi hj => by omega))
      refine R_iload hC dX11_does_142 rfl (R_bipush (v := 6) hC dX11_does_144 (by decide) ?_)
      refine R_icmp_ge hC 191 dX11_does_146 (by decide) (fun h => absurd h (nI_ge (b := 6) hn (by decide))) (fun _ => ?_)
      refine R_iconst (v := 0) hC dX11_does_149 (by decide) (R_istore hC dX11_does_150 (by decide) rfl ?_)
      exact inner 0 (Nat.zero_le _) g (hg.cond (p2 := fun i j => (i < n ∧ j < n) ∨ (i = n ∧ j < 0) ∨ (j = n ∧ i < 0)) (fun i j hi hj => Or.inl (by omega)))
  have kb : ∀ u5 u6, Rw mX11_does X 111 [some (.ref i_M), some (.ref t), some (.int (nI 5)), some (.int a), some (.int b), u5, u6] [] (wd σ x) 0 0 := by
    intro u5 u6
    refine R_iload_n (i := 2) hC dX11_does_111 rfl rfl (R_iconst (v := 4) hC dX11_does_112 (by decide) ?_)
    refine R_icmp_ne hC 134 dX11_does_113 (by decide) (fun _ => ?_) (fun h => absurd h (by decide))
    refine R_iload_n (i := 2) hC dX11_does_134 rfl rfl (R_iconst (v := 5) hC dX11_does_135 (by decide) ?_)
    refine R_icmp_ne hC 199 dX11_does_136 (by decide) (fun h => absurd rfl h) (fun _ => ?_)
    refine R_iconst (v := 0) hC dX11_does_139 (by decide) (R_istore hC dX11_does_140 (by decide) rfl ?_)
    (refine R_wd (τ := sA σ t (σ.2.2 t)) (by rw [sA_self]) ?_; exact outer 0 (by decide) _ (grid.init (fun i j _ _ => by omega)) _)
  have key0 : ∀ n, n ≤ 6 → ∀ u6, Rw mX11_does X 3 [some (.ref i_M), some (.ref t), some (.int (nI 5)), some (.int a), some (.int b), some (.int (nI n)), u6] [] (wd σ x) 0 0 := by
    refine up_loop 6 ?_ ?_
    · intro u6
      refine R_iload hC dX11_does_3 rfl (R_bipush (v := 6) hC dX11_does_5 (by decide) ?_)
      refine R_icmp_ge hC 111 dX11_does_7 (by decide) (fun _ => ?_) (fun h => absurd (by decide) h)
      exact kb _ _
    · intro n hn ih u6
      refine R_iload hC dX11_does_3 rfl (R_bipush (v := 6) hC dX11_does_5 (by decide) ?_)
      refine R_icmp_ge hC 111 dX11_does_7 (by decide) (fun h => absurd h (nI_ge (b := 6) hn (by decide))) (fun _ => ?_)
      refine R_iload_n (i := 2) hC dX11_does_10 rfl rfl ?_
      refine R_if_ne hC 33 dX11_does_11 (by decide) (fun _ => ?_) (fun h => absurd h (by decide))
      refine R_iload_n (i := 2) hC dX11_does_33 rfl rfl (R_iconst (v := 1) hC dX11_does_34 (by decide) ?_)
      refine R_icmp_ne hC 57 dX11_does_35 (by decide) (fun _ => ?_) (fun h => absurd h (by decide))
      refine R_iload_n (i := 2) hC dX11_does_57 rfl rfl (R_iconst (v := 2) hC dX11_does_58 (by decide) ?_)
      refine R_icmp_ne hC 81 dX11_does_59 (by decide) (fun _ => ?_) (fun h => absurd h (by decide))
      refine R_iload_n (i := 2) hC dX11_does_81 rfl rfl (R_iconst (v := 3) hC dX11_does_82 (by decide) ?_)
      refine R_icmp_ne hC 105 dX11_does_83 (by decide) (fun _ => ?_) (fun h => absurd h (by decide))
      refine R_iinc hC dX11_does_105 rfl (inc1 _) (by decide) rfl (R_goto hC 3 dX11_does_108 (by decide) ?_)
      exact ih _
  refine R_iconst (v := 0) hC dX11_does_0 (by decide) (R_istore hC dX11_does_1 (by decide) rfl ?_)
  exact key0 0 (by decide) _
theorem s_does6 (σ : sg) (x : aW) (t : Nat) (ht : LY t (0, 38, [])) (hne : t ≠ i_m_trial) (T : tb) (hT0 : TB (σ.2.2 t) T) (a : Nat) (ha : a < T.1) (h2 : 2 ≤ T.1) (b : Int32) :
    Mt mX11_does 2 0 0 [.ref i_M, .ref t, .int (nI 6), .int (nI a), .int b] (wd σ x) (fun q w => q = none ∧ ∃ g h : Nat → Int32, w = wd (sA (sA σ i_m_trial h) t g) x ∧ TB g (doA 6 a 0 T)) := by
  refine Mt.of MI_X11_does (Nat.le_of_ble_eq_true rfl) (fun X hC hR hT => ?_)
  obtain ⟨hR1, hC1, hR6, hC6, hE⟩ := id hT0
  have hsf : ∀ g, sA σ t g = sA (sA σ i_m_trial (σ.2.2 i_m_trial)) t g := fun g => by rw [sA_self]
  have outer : ∀ n, n ≤ 5 → a ≤ n → ∀ g, grid g (σ.2.2 t) (fun i j => if a ≤ i ∧ i < n then σ.2.2 t (6 * (i + 1) + j) else σ.2.2 t (6 * i + j)) → ∀ u6, Rw mX11_does X 208 [some (.ref i_M), some (.ref t), some (.int (nI 6)), some (.int (nI a)), some (.int b), some (.int (nI n)), u6] [] (wd (sA σ t g) x) 0 0 := by
    refine up_loop 5 ?_ ?_
    · intro han g hg u6
      refine R_iload hC dX11_does_208 rfl (R_iconst (v := 5) hC dX11_does_210 (by decide) ?_)
      refine R_icmp_ge hC 259 dX11_does_211 (by decide) (fun _ => ?_) (fun h => absurd (by decide) h)
      refine R_aload_n (i := 1) hC dX11_does_259 rfl rfl (R_bipush (v := 36) hC dX11_does_260 (by decide) (R_dup2 hC dX11_does_262 rfl rfl (R_aI hC dX11_does_263 ht 36 rfl (by decide) (by decide) (R_iconst (v := 1) hC dX11_does_264 (by decide) (R_isub hC dX11_does_265 (R_sI hC dX11_does_266 ht 36 rfl (by decide) (by decide) ?_))))))
      refine R_wd (by rw [sA_eq, sA_sA]) ?_
      refine R_iload_n (i := 2) hC dX11_does_267 rfl rfl (R_bipush (v := 7) hC dX11_does_268 (by decide) ?_)
      refine R_icmp_ne hC 334 dX11_does_270 (by decide) (fun _ => ?_) (fun h => absurd h (by decide))
      exact R_vret hC hT dX11_does_334 rfl ⟨rfl, _, _, by rw [hsf], by
      have e1 : nI T.1 - 1 = nI (T.1 - 1) := by
        have h := nI_pred (T.1 - 1)
        rwa [show T.1 - 1 + 1 = T.1 by omega] at h
      refine ⟨?_, ?_, ?_, hC6, fun i j hi hj => ?_⟩
      · simp only [upd]; rw [if_pos trivial, hg.1, hR1]; exact e1
      · simp only [upd]; rw [if_neg (by decide), hg.2.1]; exact hC1
      · show T.1 - 1 ≤ 6; omega
      · have hi2 : i < T.1 - 1 := hi
        have hj2 : j < T.2.1 := hj
        have e0 : g (6 * i + j) = if a ≤ i ∧ i < 5 then σ.2.2 t (6 * (i + 1) + j) else σ.2.2 t (6 * i + j) := hg.2.2 i j (by omega) (by omega)
        simp only [upd]
        rw [if_neg (by omega), e0]
        show _ = (if i < a then T.2.2 i j else T.2.2 (i + 1) j) ∧ sml (if i < a then T.2.2 i j else T.2.2 (i + 1) j)
        by_cases e : i < a
        · rw [if_neg (by omega), if_pos e]; exact hE i j (by omega) hj2
        · rw [if_pos (by omega), if_neg e]; exact hE (i + 1) j (by omega) hj2⟩
    · intro n hn ih han g hg u6
      have inner : ∀ k, k ≤ 6 → ∀ g, grid g (σ.2.2 t) (fun i j => if a ≤ i ∧ (i < n ∨ (i = n ∧ j < k)) then σ.2.2 t (6 * (i + 1) + j) else σ.2.2 t (6 * i + j)) → Rw mX11_does X 217 [some (.ref i_M), some (.ref t), some (.int (nI 6)), some (.int (nI a)), some (.int b), some (.int (nI n)), some (.int (nI k))] [] (wd (sA σ t g) x) 0 0 := by
        refine up_loop 6 ?_ ?_
        · intro g hg
          refine R_iload hC dX11_does_217 rfl (R_bipush (v := 6) hC dX11_does_219 (by decide) ?_)
          refine R_icmp_ge hC 253 dX11_does_221 (by decide) (fun _ => ?_) (fun h => absurd (by decide) h)
          refine R_iinc hC dX11_does_253 rfl (inc1 _) (by decide) rfl (R_goto hC 208 dX11_does_256 (by decide) ?_)
          exact ih (by omega) _ (hg.cond (p2 := fun i j => a ≤ i ∧ i < n + 1) (fun i j hi hj => Or.inl (by omega))) _
        · intro k hk ihk g hg
          refine R_iload hC dX11_does_217 rfl (R_bipush (v := 6) hC dX11_does_219 (by decide) ?_)
          refine R_icmp_ge hC 253 dX11_does_221 (by decide) (fun h => absurd h (nI_ge (b := 6) hk (by decide))) (fun _ => ?_)
          refine R_aload_n (i := 1) hC dX11_does_224 rfl rfl (R_bipush (v := 6) hC dX11_does_225 (by decide) (R_iload hC dX11_does_227 rfl (R_imul hC dX11_does_229 (R_iload hC dX11_does_230 rfl (R_iadd hC dX11_does_232 (R_aload_n (i := 1) hC dX11_does_233 rfl rfl (R_bipush (v := 6) hC dX11_does_234 (by decide) ?_)))))))
          refine R_iload hC dX11_does_236 rfl (R_imul hC dX11_does_238 (R_bipush (v := 6) hC dX11_does_239 (by decide) (R_iadd hC dX11_does_241 (R_iload hC dX11_does_242 rfl (R_iadd hC dX11_does_244 (R_aI hC dX11_does_245 ht (6 * (n + 1) + k) (by rw [show (6 : Int32) * nI n + 6 = nI (6 * (n + 1)) from by rw [show (6 : Int32) = nI 6 from rfl, pk_mul, nI_add, show 6 * n + 6 = 6 * (n + 1) by omega], nI_add]) (by omega) (by decide) (R_sI hC dX11_does_246 ht (6 * n + k) (n6 n k) (by omega) (by decide) ?_)))))))
          refine R_wd (by rw [sA_eq, sA_sA]) ?_
          refine R_iinc hC dX11_does_247 rfl (inc1 _) (by decide) rfl (R_goto hC 217 dX11_does_250 (by decide) ?_)
          exact ihk _ (hg.put (a := n) (b := k) (p2 := fun i j => a ≤ i ∧ (i < n ∨ (i = n ∧ j < k + 1))) (by omega) hk (by rw [hg.2.2 (n + 1) k (by omega) hk]; exact if_neg (by omega)) (fun i j hi hj => by omega))
      refine R_iload hC dX11_does_208 rfl (R_iconst (v := 5) hC dX11_does_210 (by decide) ?_)
      refine R_icmp_ge hC 259 dX11_does_211 (by decide) (fun h => absurd h (nI_ge (b := 5) hn (by decide))) (fun _ => ?_)
      refine R_iconst (v := 0) hC dX11_does_214 (by decide) (R_istore hC dX11_does_215 (by decide) rfl ?_)
      exact inner 0 (by decide) g (hg.cond (p2 := fun i j => a ≤ i ∧ (i < n ∨ (i = n ∧ j < 0))) (fun i j hi hj => Or.inl (by omega)))
  have kb : ∀ u5 u6, Rw mX11_does X 111 [some (.ref i_M), some (.ref t), some (.int (nI 6)), some (.int (nI a)), some (.int b), u5, u6] [] (wd σ x) 0 0 := by
    intro u5 u6
    refine R_iload_n (i := 2) hC dX11_does_111 rfl rfl (R_iconst (v := 4) hC dX11_does_112 (by decide) ?_)
    refine R_icmp_ne hC 134 dX11_does_113 (by decide) (fun _ => ?_) (fun h => absurd h (by decide))
    refine R_iload_n (i := 2) hC dX11_does_134 rfl rfl (R_iconst (v := 5) hC dX11_does_135 (by decide) ?_)
    refine R_icmp_ne hC 199 dX11_does_136 (by decide) (fun _ => ?_) (fun h => absurd h (by decide))
    refine R_iload_n (i := 2) hC dX11_does_199 rfl rfl (R_bipush (v := 6) hC dX11_does_200 (by decide) ?_)
    refine R_icmp_ne hC 267 dX11_does_202 (by decide) (fun h => absurd rfl h) (fun _ => ?_)
    refine R_iload_n (i := 3) hC dX11_does_205 rfl rfl (R_istore hC dX11_does_206 (by decide) rfl ?_)
    (refine R_wd (τ := sA σ t (σ.2.2 t)) (by rw [sA_self]) ?_; exact outer a (by omega) (Nat.le_refl _) _ (grid.init (fun i j _ _ => by omega)) _)
  have key0 : ∀ n, n ≤ 6 → ∀ u6, Rw mX11_does X 3 [some (.ref i_M), some (.ref t), some (.int (nI 6)), some (.int (nI a)), some (.int b), some (.int (nI n)), u6] [] (wd σ x) 0 0 := by
    refine up_loop 6 ?_ ?_
    · intro u6
      refine R_iload hC dX11_does_3 rfl (R_bipush (v := 6) hC dX11_does_5 (by decide) ?_)
      refine R_icmp_ge hC 111 dX11_does_7 (by decide) (fun _ => ?_) (fun h => absurd (by decide) h)
      exact kb _ _
    · intro n hn ih u6
      refine R_iload hC dX11_does_3 rfl (R_bipush (v := 6) hC dX11_does_5 (by decide) ?_)
      refine R_icmp_ge hC 111 dX11_does_7 (by decide) (fun h => absurd h (nI_ge (b := 6) hn (by decide))) (fun _ => ?_)
      refine R_iload_n (i := 2) hC dX11_does_10 rfl rfl ?_
      refine R_if_ne hC 33 dX11_does_11 (by decide) (fun _ => ?_) (fun h => absurd h (by decide))
      refine R_iload_n (i := 2) hC dX11_does_33 rfl rfl (R_iconst (v := 1) hC dX11_does_34 (by decide) ?_)
      refine R_icmp_ne hC 57 dX11_does_35 (by decide) (fun _ => ?_) (fun h => absurd h (by decide))
      refine R_iload_n (i := 2) hC dX11_does_57 rfl rfl (R_iconst (v := 2) hC dX11_does_58 (by decide) ?_)
      refine R_icmp_ne hC 81 dX11_does_59 (by decide) (fun _ => ?_) (fun h => absurd h (by decide))
      refine R_iload_n (i := 2) hC dX11_does_81 rfl rfl (R_iconst (v := 3) hC dX11_does_82 (by decide) ?_)
      refine R_icmp_ne hC 105 dX11_does_83 (by decide) (fun _ => ?_) (fun h => absurd h (by decide))
      refine R_iinc hC dX11_does_105 rfl (inc1 _) (by decide) rfl (R_goto hC 3 dX11_does_108 (by decide) ?_)
      exact ih _
  refine R_iconst (v := 0) hC dX11_does_0 (by decide) (R_istore hC dX11_does_1 (by decide) rfl ?_)
  exact key0 0 (by decide) _
theorem s_does7 (σ : sg) (x : aW) (t : Nat) (ht : LY t (0, 38, [])) (hne : t ≠ i_m_trial) (T : tb) (hT0 : TB (σ.2.2 t) T) (a : Nat) (ha : a < T.2.1) (h2 : 2 ≤ T.2.1) (b : Int32) :
    Mt mX11_does 2 0 0 [.ref i_M, .ref t, .int (nI 7), .int (nI a), .int b] (wd σ x) (fun q w => q = none ∧ ∃ g h : Nat → Int32, w = wd (sA (sA σ i_m_trial h) t g) x ∧ TB g (doA 7 a 0 T)) := by
  refine Mt.of MI_X11_does (Nat.le_of_ble_eq_true rfl) (fun X hC hR hT => ?_)
  obtain ⟨hR1, hC1, hR6, hC6, hE⟩ := id hT0
  have hsf : ∀ g, sA σ t g = sA (sA σ i_m_trial (σ.2.2 i_m_trial)) t g := fun g => by rw [sA_self]
  have outer : ∀ n, n ≤ 6 → ∀ g, grid g (σ.2.2 t) (fun i j => if i < n ∧ a ≤ j ∧ j < 5 then σ.2.2 t (6 * i + (j + 1)) else σ.2.2 t (6 * i + j)) → ∀ u6, Rw mX11_does X 276 [some (.ref i_M), some (.ref t), some (.int (nI 7)), some (.int (nI a)), some (.int b), some (.int (nI n)), u6] [] (wd (sA σ t g) x) 0 0 := by
    refine up_loop 6 ?_ ?_
    · intro g hg u6
      refine R_iload hC dX11_does_276 rfl (R_bipush (v := 6) hC dX11_does_278 (by decide) ?_)
      refine R_icmp_ge hC 326 dX11_does_280 (by decide) (fun _ => ?_) (fun h => absurd (by decide) h)
      refine R_aload_n (i := 1) hC dX11_does_326 rfl rfl (R_bipush (v := 37) hC dX11_does_327 (by decide) (R_dup2 hC dX11_does_329 rfl rfl (R_aI hC dX11_does_330 ht 37 rfl (by decide) (by decide) (R_iconst (v := 1) hC dX11_does_331 (by decide) (R_isub hC dX11_does_332 (R_sI hC dX11_does_333 ht 37 rfl (by decide) (by decide) ?_))))))
      refine R_wd (by rw [sA_eq, sA_sA]) ?_
      exact R_vret hC hT dX11_does_334 rfl ⟨rfl, _, _, by rw [hsf], by
      have e1 : nI T.2.1 - 1 = nI (T.2.1 - 1) := by
        have h := nI_pred (T.2.1 - 1)
        rwa [show T.2.1 - 1 + 1 = T.2.1 by omega] at h
      refine ⟨?_, ?_, hR6, ?_, fun i j hi hj => ?_⟩
      · simp only [upd]; rw [if_neg (by decide), hg.1]; exact hR1
      · simp only [upd]; rw [if_pos trivial, hg.2.1, hC1]; exact e1
      · show T.2.1 - 1 ≤ 6; omega
      · have hi2 : i < T.1 := hi
        have hj2 : j < T.2.1 - 1 := hj
        have e0 : g (6 * i + j) = if i < 6 ∧ a ≤ j ∧ j < 5 then σ.2.2 t (6 * i + (j + 1)) else σ.2.2 t (6 * i + j) := hg.2.2 i j (by omega) (by omega)
        simp only [upd]
        rw [if_neg (by omega), e0]
        show _ = (if j < a then T.2.2 i j else T.2.2 i (j + 1)) ∧ sml (if j < a then T.2.2 i j else T.2.2 i (j + 1))
        by_cases e : j < a
        · rw [if_neg (by omega), if_pos e]; exact hE i j hi2 (by omega)
        · rw [if_pos (by omega), if_neg e]; exact hE i (j + 1) hi2 (by omega)⟩
    · intro n hn ih g hg u6
      have inner : ∀ k, k ≤ 5 → a ≤ k → ∀ g, grid g (σ.2.2 t) (fun i j => if a ≤ j ∧ ((i < n ∧ j < 5) ∨ (i = n ∧ j < k)) then σ.2.2 t (6 * i + (j + 1)) else σ.2.2 t (6 * i + j)) → Rw mX11_does X 286 [some (.ref i_M), some (.ref t), some (.int (nI 7)), some (.int (nI a)), some (.int b), some (.int (nI n)), some (.int (nI k))] [] (wd (sA σ t g) x) 0 0 := by
        refine up_loop 5 ?_ ?_
        · intro hak g hg
          refine R_iload hC dX11_does_286 rfl (R_iconst (v := 5) hC dX11_does_288 (by decide) ?_)
          refine R_icmp_ge hC 320 dX11_does_289 (by decide) (fun _ => ?_) (fun h => absurd (by decide) h)
          refine R_iinc hC dX11_does_320 rfl (inc1 _) (by decide) rfl (R_goto hC 276 dX11_does_323 (by decide) ?_)
          exact ih _ (hg.cond (p2 := fun i j => i < n + 1 ∧ a ≤ j ∧ j < 5) (fun i j hi hj => Or.inl (by omega))) _
        · intro k hk ihk hak g hg
          refine R_iload hC dX11_does_286 rfl (R_iconst (v := 5) hC dX11_does_288 (by decide) ?_)
          refine R_icmp_ge hC 320 dX11_does_289 (by decide) (fun h => absurd h (nI_ge (b := 5) hk (by decide))) (fun _ => ?_)
          refine R_aload_n (i := 1) hC dX11_does_292 rfl rfl (R_bipush (v := 6) hC dX11_does_293 (by decide) (R_iload hC dX11_does_295 rfl (R_imul hC dX11_does_297 (R_iload hC dX11_does_298 rfl (R_iadd hC dX11_does_300 (R_aload_n (i := 1) hC dX11_does_301 rfl rfl (R_bipush (v := 6) hC dX11_does_302 (by decide) ?_)))))))
          refine R_iload hC dX11_does_304 rfl (R_imul hC dX11_does_306 (R_iload hC dX11_does_307 rfl (R_iadd hC dX11_does_309 (R_iconst (v := 1) hC dX11_does_310 (by decide) (R_iadd hC dX11_does_311 (R_aI hC dX11_does_312 ht (6 * n + (k + 1)) (by rw [n6, ← nI_succ, Nat.add_assoc]) (by omega) (by decide) (R_sI hC dX11_does_313 ht (6 * n + k) (n6 n k) (by omega) (by decide) ?_)))))))
          refine R_wd (by rw [sA_eq, sA_sA]) ?_
          refine R_iinc hC dX11_does_314 rfl (inc1 _) (by decide) rfl (R_goto hC 286 dX11_does_317 (by decide) ?_)
          exact ihk (by omega) _ (hg.put (a := n) (b := k) (p2 := fun i j => a ≤ j ∧ ((i < n ∧ j < 5) ∨ (i = n ∧ j < k + 1))) hn (by omega) (by rw [hg.2.2 n (k + 1) hn (by omega)]; exact if_neg (by omega)) (fun i j hi hj => by omega))
      refine R_iload hC dX11_does_276 rfl (R_bipush (v := 6) hC dX11_does_278 (by decide) ?_)
      refine R_icmp_ge hC 326 dX11_does_280 (by decide) (fun h => absurd h (nI_ge (b := 6) hn (by decide))) (fun _ => ?_)
      refine R_iload_n (i := 3) hC dX11_does_283 rfl rfl (R_istore hC dX11_does_284 (by decide) rfl ?_)
      exact inner a (by omega) (Nat.le_refl _) g (hg.cond (p2 := fun i j => a ≤ j ∧ ((i < n ∧ j < 5) ∨ (i = n ∧ j < a))) (fun i j hi hj => Or.inl (by omega)))
  have kb : ∀ u5 u6, Rw mX11_does X 111 [some (.ref i_M), some (.ref t), some (.int (nI 7)), some (.int (nI a)), some (.int b), u5, u6] [] (wd σ x) 0 0 := by
    intro u5 u6
    refine R_iload_n (i := 2) hC dX11_does_111 rfl rfl (R_iconst (v := 4) hC dX11_does_112 (by decide) ?_)
    refine R_icmp_ne hC 134 dX11_does_113 (by decide) (fun _ => ?_) (fun h => absurd h (by decide))
    refine R_iload_n (i := 2) hC dX11_does_134 rfl rfl (R_iconst (v := 5) hC dX11_does_135 (by decide) ?_)
    refine R_icmp_ne hC 199 dX11_does_136 (by decide) (fun _ => ?_) (fun h => absurd h (by decide))
    refine R_iload_n (i := 2) hC dX11_does_199 rfl rfl (R_bipush (v := 6) hC dX11_does_200 (by decide) ?_)
    refine R_icmp_ne hC 267 dX11_does_202 (by decide) (fun _ => ?_) (fun h => absurd h (by decide))
    refine R_iload_n (i := 2) hC dX11_does_267 rfl rfl (R_bipush (v := 7) hC dX11_does_268 (by decide) ?_)
    refine R_icmp_ne hC 334 dX11_does_270 (by decide) (fun h => absurd rfl h) (fun _ => ?_)
    refine R_iconst (v := 0) hC dX11_does_273 (by decide) (R_istore hC dX11_does_274 (by decide) rfl ?_)
    (refine R_wd (τ := sA σ t (σ.2.2 t)) (by rw [sA_self]) ?_; exact outer 0 (by decide) _ (grid.init (fun i j _ _ => by omega)) _)
  have key0 : ∀ n, n ≤ 6 → ∀ u6, Rw mX11_does X 3 [some (.ref i_M), some (.ref t), some (.int (nI 7)), some (.int (nI a)), some (.int b), some (.int (nI n)), u6] [] (wd σ x) 0 0 := by
    refine up_loop 6 ?_ ?_
    · intro u6
      refine R_iload hC dX11_does_3 rfl (R_bipush (v := 6) hC dX11_does_5 (by decide) ?_)
      refine R_icmp_ge hC 111 dX11_does_7 (by decide) (fun _ => ?_) (fun h => absurd (by decide) h)
      exact kb _ _
    · intro n hn ih u6
      refine R_iload hC dX11_does_3 rfl (R_bipush (v := 6) hC dX11_does_5 (by decide) ?_)
      refine R_icmp_ge hC 111 dX11_does_7 (by decide) (fun h => absurd h (nI_ge (b := 6) hn (by decide))) (fun _ => ?_)
      refine R_iload_n (i := 2) hC dX11_does_10 rfl rfl ?_
      refine R_if_ne hC 33 dX11_does_11 (by decide) (fun _ => ?_) (fun h => absurd h (by decide))
      refine R_iload_n (i := 2) hC dX11_does_33 rfl rfl (R_iconst (v := 1) hC dX11_does_34 (by decide) ?_)
      refine R_icmp_ne hC 57 dX11_does_35 (by decide) (fun _ => ?_) (fun h => absurd h (by decide))
      refine R_iload_n (i := 2) hC dX11_does_57 rfl rfl (R_iconst (v := 2) hC dX11_does_58 (by decide) ?_)
      refine R_icmp_ne hC 81 dX11_does_59 (by decide) (fun _ => ?_) (fun h => absurd h (by decide))
      refine R_iload_n (i := 2) hC dX11_does_81 rfl rfl (R_iconst (v := 3) hC dX11_does_82 (by decide) ?_)
      refine R_icmp_ne hC 105 dX11_does_83 (by decide) (fun _ => ?_) (fun h => absurd h (by decide))
      refine R_iinc hC dX11_does_105 rfl (inc1 _) (by decide) rfl (R_goto hC 3 dX11_does_108 (by decide) ?_)
      exact ih _
  refine R_iconst (v := 0) hC dX11_does_0 (by decide) (R_istore hC dX11_does_1 (by decide) rfl ?_)
  exact key0 0 (by decide) _
end
section
/-! ===== the abstract state: what both sides hold ===== -/
/-- a script: how many steps; of each its kind, its two digits, its value -/
abbrev scr : Type := Nat × (Nat → Nat → Int32)
/-- tape; table; kept ones; scripts; tables that can be had back; status; image (there is one, its table, how many kept) -/
abbrev aS : Type := (Nat × (Nat → Nat)) × tb × (Nat × (Nat → tb)) × (Nat × (Nat → scr)) × (Nat × (Nat → tb)) × (Nat → Int32) × (Bool × tb × Nat)
abbrev tp (α : aS) : Nat × (Nat → Nat) := α.1
abbrev tT (α : aS) : tb := α.2.1
abbrev tK (α : aS) : Nat × (Nat → tb) := α.2.2.1
abbrev tS (α : aS) : Nat × (Nat → scr) := α.2.2.2.1
abbrev tP (α : aS) : Nat × (Nat → tb) := α.2.2.2.2.1
abbrev tZ (α : aS) : Nat → Int32 := α.2.2.2.2.2.1
abbrev tI (α : aS) : Bool × tb × Nat := α.2.2.2.2.2.2
def dig (v : Int32) : Prop := ∃ d : Nat, d ≤ 9 ∧ v = nI d
/-- a step as a text can tell it -/
def stepOK (s : Nat → Int32) : Prop := ∃ k : Nat, k ≤ 6 ∧ s 0 = nI k ∧ (k = 5 ∨ dig (s 1)) ∧ (k < 2 ∨ k = 5 ∨ dig (s 2)) ∧ (k = 6 → sml (s 3))
def tbOK (T : tb) : Prop := T.1 ≤ 6 ∧ T.2.1 ≤ 6 ∧ (T.1 = 0 ↔ T.2.1 = 0) ∧ ∀ i j, i < T.1 → j < T.2.1 → sml (T.2.2 i j)
def aOK (α : aS) : Prop := (tp α).1 ≤ 240 ∧ (∀ i, i < (tp α).1 → 1 ≤ (tp α).2 i ∧ (tp α).2 i ≤ 255) ∧ tbOK (tT α) ∧ ((tK α).1 ≤ 4 ∧ ∀ k, k < (tK α).1 → tbOK ((tK α).2 k) ∧ 1 ≤ ((tK α).2 k).1) ∧
  ((tS α).1 ≤ 4 ∧ ∀ k, k < (tS α).1 → 1 ≤ ((tS α).2 k).1 ∧ ((tS α).2 k).1 ≤ 12 ∧ ∀ i, i < ((tS α).2 k).1 → stepOK (((tS α).2 k).2 i)) ∧ ((tP α).1 ≤ 40 ∧ ∀ k, k < (tP α).1 → tbOK ((tP α).2 k)) ∧
  ((tI α).1 = true → tbOK (tI α).2.1 ∧ 1 ≤ (tI α).2.1.1 ∧ (tI α).2.2 ≤ (tK α).1)
/-- what a row of 38 holds, of a table that is well formed -/
def TR (g : Nat → Int32) (T : tb) : Prop := g 36 = nI T.1 ∧ g 37 = nI T.2.1 ∧ ∀ i j, i < T.1 → j < T.2.1 → g (6 * i + j) = T.2.2 i j
theorem TR.TB {g : Nat → Int32} {T : tb} (h : TR g T) (ok : tbOK T) : TB g T := ⟨h.1, h.2.1, ok.1, ok.2.1, fun i j hi hj => ⟨h.2.2 i j hi hj, ok.2.2.2 i j hi hj⟩⟩
theorem TB.TR {g : Nat → Int32} {T : tb} (h : TB g T) : TR g T := ⟨h.1, h.2.1, fun i j hi hj => (h.2.2.2.2 i j hi hj).1⟩
theorem TR.congr {g h : Nat → Int32} {T : tb} (q : TR g T) (ok : tbOK T) (e : ∀ k, k < 38 → h k = g k) : TR h T := by
  obtain ⟨o1, o2, -, -⟩ := ok
  refine ⟨by rw [e _ (by decide)]; exact q.1, by rw [e _ (by decide)]; exact q.2.1, fun i j hi hj => ?_⟩
  rw [e _ (by omega)]; exact q.2.2 i j hi hj
/-- the model's cells hold the abstract state -/
def MInv (σ : sg) (α : aS) : Prop :=
  (σ.1 i_M 2 = nI (tp α).1 ∧ ∀ i, i < (tp α).1 → σ.2.2 i_m_tape i &&& 255 = nI ((tp α).2 i)) ∧ TR (σ.2.2 i_m_now) (tT α) ∧
  (σ.1 i_M 12 = nI (tK α).1 ∧ ∀ k, k < (tK α).1 → TR (fun q => σ.2.2 i_m_kept (38 * k + q)) ((tK α).2 k)) ∧
  (σ.1 i_M 13 = nI (tS α).1 ∧ ∀ k, k < (tS α).1 → σ.2.2 i_m_planLong k = nI ((tS α).2 k).1 ∧ ∀ i j, i < ((tS α).2 k).1 → j < 4 → σ.2.2 i_m_plan (4 * (12 * k + i) + j) = ((tS α).2 k).2 i j) ∧
  (σ.1 i_M 15 = nI (tP α).1 ∧ ∀ k, k < (tP α).1 → TR (fun q => σ.2.2 i_m_undoRow (38 * k + q)) ((tP α).2 k)) ∧
  (∀ i, i < 4 → σ.2.2 i_m_status i = tZ α i) ∧
  (σ.1 i_M 34 = (if (tI α).1 then 1 else 0) ∧ ((tI α).1 = true → TR (σ.2.2 i_m_imageRow) (tI α).2.1 ∧ σ.1 i_M 33 = nI (tI α).2.2))
/-- the class's cells are the same -/
def CEq (σ τ : sg) : Prop := ∀ i, i < i_M → τ.1 i = σ.1 i ∧ τ.2.1 i = σ.2.1 i ∧ τ.2.2 i = σ.2.2 i
/-- the model's cells are the same -/
def MEq (σ τ : sg) : Prop := ∀ i, i_M ≤ i → τ.1 i = σ.1 i ∧ τ.2.1 i = σ.2.1 i ∧ τ.2.2 i = σ.2.2 i
theorem CEq.rf (σ : sg) : CEq σ σ := fun _ _ => ⟨rfl, rfl, rfl⟩
theorem CEq.tr {σ τ υ : sg} (h : CEq σ τ) (h2 : CEq τ υ) : CEq σ υ := fun i hi => ⟨(h2 i hi).1.trans (h i hi).1, (h2 i hi).2.1.trans (h i hi).2.1, (h2 i hi).2.2.trans (h i hi).2.2⟩
theorem CEq.g {σ τ : sg} (h : CEq σ τ) {i k : Nat} {v : Int32} (hi : i_M ≤ i) : CEq σ (sG τ i k v) := h.tr fun j hj => ⟨by funext b; exact sG_ni (by omega), rfl, rfl⟩
theorem CEq.l {σ τ : sg} (h : CEq σ τ) {i : Nat} {v : Int64} (hi : i_M ≤ i) : CEq σ (sL τ i v) := h.tr fun j hj => ⟨rfl, by show (if j = i then v else τ.2.1 j) = _; rw [if_neg (by omega)], rfl⟩
theorem CEq.a {σ τ : sg} (h : CEq σ τ) {i : Nat} {f : Nat → Int32} (hi : i_M ≤ i) : CEq σ (sA τ i f) := h.tr fun j hj => ⟨rfl, rfl, sA_ne (by omega)⟩
theorem MInv.of {σ τ : sg} {α : aS} (h : MInv σ α) (h2 : τ.1 i_M 2 = σ.1 i_M 2) (h12 : τ.1 i_M 12 = σ.1 i_M 12) (h13 : τ.1 i_M 13 = σ.1 i_M 13) (h15 : τ.1 i_M 15 = σ.1 i_M 15) (h33 : τ.1 i_M 33 = σ.1 i_M 33) (h34 : τ.1 i_M 34 = σ.1 i_M 34)
    (a1 : τ.2.2 i_m_tape = σ.2.2 i_m_tape) (a2 : τ.2.2 i_m_now = σ.2.2 i_m_now) (a3 : τ.2.2 i_m_kept = σ.2.2 i_m_kept) (a4 : τ.2.2 i_m_plan = σ.2.2 i_m_plan) (a5 : τ.2.2 i_m_planLong = σ.2.2 i_m_planLong) (a6 : τ.2.2 i_m_status = σ.2.2 i_m_status) (a7 : τ.2.2 i_m_undoRow = σ.2.2 i_m_undoRow) (a8 : τ.2.2 i_m_imageRow = σ.2.2 i_m_imageRow) : MInv τ α := by
  unfold MInv
  rw [h2, h12, h13, h15, h33, h34, a1, a2, a3, a4, a5, a6, a7, a8]
  exact h
theorem MInv.g {σ : sg} {α : aS} (h : MInv σ α) {k : Nat} {v : Int32} (hk : k ≠ 2 ∧ k ≠ 12 ∧ k ≠ 13 ∧ k ≠ 15 ∧ k ≠ 33 ∧ k ≠ 34) : MInv (sG σ i_M k v) α :=
  h.of (sG_nk (Ne.symm hk.1)) (sG_nk (Ne.symm hk.2.1)) (sG_nk (Ne.symm hk.2.2.1)) (sG_nk (Ne.symm hk.2.2.2.1)) (sG_nk (Ne.symm hk.2.2.2.2.1)) (sG_nk (Ne.symm hk.2.2.2.2.2)) rfl rfl rfl rfl rfl rfl rfl rfl
theorem MInv.l {σ : sg} {α : aS} (h : MInv σ α) {i : Nat} {v : Int64} : MInv (sL σ i v) α := h.of rfl rfl rfl rfl rfl rfl rfl rfl rfl rfl rfl rfl rfl rfl
theorem MInv.a {σ : sg} {α : aS} (h : MInv σ α) {i : Nat} {f : Nat → Int32} (hi : i ≠ i_m_tape ∧ i ≠ i_m_now ∧ i ≠ i_m_kept ∧ i ≠ i_m_plan ∧ i ≠ i_m_planLong ∧ i ≠ i_m_status ∧ i ≠ i_m_undoRow ∧ i ≠ i_m_imageRow) : MInv (sA σ i f) α :=
  h.of rfl rfl rfl rfl rfl rfl (sA_ne (Ne.symm hi.1)) (sA_ne (Ne.symm hi.2.1)) (sA_ne (Ne.symm hi.2.2.1)) (sA_ne (Ne.symm hi.2.2.2.1)) (sA_ne (Ne.symm hi.2.2.2.2.1)) (sA_ne (Ne.symm hi.2.2.2.2.2.1)) (sA_ne (Ne.symm hi.2.2.2.2.2.2.1)) (sA_ne (Ne.symm hi.2.2.2.2.2.2.2))
/-- the end of one of the model's calls -/
def MPost (σ : sg) (x : aW) (v : Int32) (α : aS) : Option Value → aW → Prop := fun r w => r = some (.int v) ∧ ∃ τ, w = wd τ x ∧ MInv τ α ∧ CEq σ τ
theorem MPost.i {σ τ : sg} {x : aW} {v : Int32} {α : aS} (h : MInv τ α) (c : CEq σ τ) : MPost σ x v α (some (.int v)) (wd τ x) := ⟨rfl, τ, rfl, h, c⟩
theorem M_thr {σ : sg} {α : aS} (h : MInv σ α) (v : Int32) : MInv (sG σ i_M 0 v) α := h.g (by decide)
theorem T0_iff {α : aS} (ok : aOK α) : (nI (tT α).1 = (0 : Int32)) ↔ (tT α).1 = 0 := nI_eq (b := 0) (by have := ok.2.2.1.1; omega) (by decide)
theorem Mt.mono {m : mi} {d mc ms : Nat} {as : List Value} {w : aW} {Q Q2 : Option Value → aW → Prop} (h : Mt m d mc ms as w Q) (e : ∀ r w1, Q r w1 → Q2 r w1) : Mt m d mc ms as w Q2 := by
  intro l V hV
  refine MetFree.mono (h l V hV) (fun _ _ q => q) (fun _ _ _ _ _ q => q) ?_
  rintro a st o t - ⟨⟨r, w1, h1, h2, h3⟩, h4⟩
  exact ⟨⟨r, w1, h1, e r w1 h2, h3⟩, h4⟩
end
section
-- end
noncomputable def opEnd (α : aS) (n : Int32) : Int32 × aS := by classical exact if 0 ≤ n.toInt ∧ n.toInt ≤ (tp α).1 then (1, (n.toNatClampNeg, (tp α).2), α.2) else (0, α)
theorem mo_end {σ : sg} {x : aW} {α : aS} (h : MInv σ α) (ok : aOK α) (n : Int32) : Mt mX11_end 0 0 0 [.ref i_M, .int n] (wd σ x) (MPost σ x (opEnd α n).1 (opEnd α n).2) := by
  refine (s_end σ x n).mono ?_
  have e : (σ.1 i_M 2).toInt = (tp α).1 := by rw [h.1.1, nI_toInt (by have := ok.1; omega)]
  rintro r w (⟨h1, h2, rfl, rfl⟩ | ⟨h1, rfl, rfl⟩)
  · rw [e] at h2
    have e2 : opEnd α n = (1, (n.toNatClampNeg, (tp α).2), α.2) := by unfold opEnd; rw [if_pos ⟨h1, h2⟩]
    rw [e2]
    obtain ⟨j, rfl, hj, hj2⟩ := i32_nI h1
    refine MPost.i ?_ ((CEq.rf σ).g (Nat.le_refl _) |>.g (Nat.le_refl _))
    obtain ⟨⟨q1, q2⟩, q3, q4, q5, q6, q7, q8⟩ := h
    refine ⟨⟨?_, fun i hi => ?_⟩, q3, ?_, ?_, ?_, q7, ?_⟩
    · rw [sG_eq]; show nI j = nI (nI j).toNatClampNeg; rw [nI_clamp hj2]
    · have hi : i < (nI j).toNatClampNeg := hi
      rw [nI_clamp hj2] at hi
      exact q2 i (by omega)
    · rw [sG_nk (by decide), sG_nk (by decide)]; exact q4
    · rw [sG_nk (by decide), sG_nk (by decide)]; exact q5
    · rw [sG_nk (by decide), sG_nk (by decide)]; exact q6
    · rw [sG_nk (by decide), sG_nk (by decide), sG_nk (by decide), sG_nk (by decide)]; exact q8
  · rw [e] at h1
    have e2 : opEnd α n = (0, α) := by unfold opEnd; rw [if_neg h1]
    rw [e2]
    exact MPost.i (M_thr h 0) ((CEq.rf σ).g (Nat.le_refl _))
-- status
noncomputable def opStatus (α : aS) (k : Int32) : Int32 := by classical exact if 0 ≤ k.toInt ∧ k.toInt ≤ 3 then tZ α k.toNatClampNeg else -1
theorem mo_status {σ : sg} {x : aW} {α : aS} (h : MInv σ α) (k : Int32) : Mt mX11_status 1 0 0 [.ref i_M, .int k] (wd σ x) (MPost σ x (opStatus α k) α) := by
  refine (s_status σ x k).mono ?_
  rintro r w ⟨rfl, ⟨j, hj, rfl, rfl⟩ | ⟨h1, rfl⟩⟩
  · have e2 : opStatus α (nI j) = σ.2.2 i_m_status j := by
      unfold opStatus
      rw [if_pos (by rw [nI_toInt (by omega)]; omega), nI_clamp (by omega), h.2.2.2.2.2.1 j hj]
    rw [e2]; exact MPost.i (M_thr h 0) ((CEq.rf σ).g (Nat.le_refl _))
  · have e2 : opStatus α k = -1 := by unfold opStatus; rw [if_neg h1]
    rw [e2]; exact MPost.i (M_thr h 0) ((CEq.rf σ).g (Nat.le_refl _))
theorem dX11_keep_0 : decode cX11_keep 0 = .ok (.aload_n 0, 1) := by decide +kernel
theorem dX11_keep_1 : decode cX11_keep 1 = .ok (.iconst 0, 1) := by decide +kernel
theorem dX11_keep_2 : decode cX11_keep 2 = .ok (.putfield 83, 3) := by decide +kernel
theorem dX11_keep_5 : decode cX11_keep 5 = .ok (.aload_n 0, 1) := by decide +kernel
theorem dX11_keep_6 : decode cX11_keep 6 = .ok (.getfield 13, 3) := by decide +kernel
theorem dX11_keep_9 : decode cX11_keep 9 = .ok (.bipush 36, 2) := by decide +kernel
theorem dX11_keep_11 : decode cX11_keep 11 = .ok (.iaload, 1) := by decide +kernel
theorem dX11_keep_12 : decode cX11_keep 12 = .ok (.ifCond .eq 11, 3) := by decide +kernel
theorem dX11_keep_15 : decode cX11_keep 15 = .ok (.aload_n 0, 1) := by decide +kernel
theorem dX11_keep_16 : decode cX11_keep 16 = .ok (.getfield 189, 3) := by decide +kernel
theorem dX11_keep_19 : decode cX11_keep 19 = .ok (.iconst 4, 1) := by decide +kernel
theorem dX11_keep_20 : decode cX11_keep 20 = .ok (.if_icmp .ne 5, 3) := by decide +kernel
theorem dX11_keep_23 : decode cX11_keep 23 = .ok (.iconst (-1), 1) := by decide +kernel
theorem dX11_keep_24 : decode cX11_keep 24 = .ok (.ireturn, 1) := by decide +kernel
theorem dX11_keep_25 : decode cX11_keep 25 = .ok (.iconst 0, 1) := by decide +kernel
theorem dX11_keep_26 : decode cX11_keep 26 = .ok (.istore_n 1, 1) := by decide +kernel
theorem dX11_keep_27 : decode cX11_keep 27 = .ok (.iload_n 1, 1) := by decide +kernel
theorem dX11_keep_28 : decode cX11_keep 28 = .ok (.bipush 38, 2) := by decide +kernel
theorem dX11_keep_30 : decode cX11_keep 30 = .ok (.if_icmp .ge 29, 3) := by decide +kernel
theorem dX11_keep_33 : decode cX11_keep 33 = .ok (.aload_n 0, 1) := by decide +kernel
theorem dX11_keep_34 : decode cX11_keep 34 = .ok (.getfield 23, 3) := by decide +kernel
theorem dX11_keep_37 : decode cX11_keep 37 = .ok (.bipush 38, 2) := by decide +kernel
theorem dX11_keep_39 : decode cX11_keep 39 = .ok (.aload_n 0, 1) := by decide +kernel
theorem dX11_keep_40 : decode cX11_keep 40 = .ok (.getfield 189, 3) := by decide +kernel
theorem dX11_keep_43 : decode cX11_keep 43 = .ok (.imul, 1) := by decide +kernel
theorem dX11_keep_44 : decode cX11_keep 44 = .ok (.iload_n 1, 1) := by decide +kernel
theorem dX11_keep_45 : decode cX11_keep 45 = .ok (.iadd, 1) := by decide +kernel
theorem dX11_keep_46 : decode cX11_keep 46 = .ok (.aload_n 0, 1) := by decide +kernel
theorem dX11_keep_47 : decode cX11_keep 47 = .ok (.getfield 13, 3) := by decide +kernel
theorem dX11_keep_50 : decode cX11_keep 50 = .ok (.iload_n 1, 1) := by decide +kernel
theorem dX11_keep_51 : decode cX11_keep 51 = .ok (.iaload, 1) := by decide +kernel
theorem dX11_keep_52 : decode cX11_keep 52 = .ok (.iastore, 1) := by decide +kernel
theorem dX11_keep_53 : decode cX11_keep 53 = .ok (.iinc 1 1, 3) := by decide +kernel
theorem dX11_keep_56 : decode cX11_keep 56 = .ok (.goto (-29), 3) := by decide +kernel
theorem dX11_keep_59 : decode cX11_keep 59 = .ok (.aload_n 0, 1) := by decide +kernel
theorem dX11_keep_60 : decode cX11_keep 60 = .ok (.dup, 1) := by decide +kernel
theorem dX11_keep_61 : decode cX11_keep 61 = .ok (.getfield 189, 3) := by decide +kernel
theorem dX11_keep_64 : decode cX11_keep 64 = .ok (.iconst 1, 1) := by decide +kernel
theorem dX11_keep_65 : decode cX11_keep 65 = .ok (.iadd, 1) := by decide +kernel
theorem dX11_keep_66 : decode cX11_keep 66 = .ok (.putfield 189, 3) := by decide +kernel
theorem dX11_keep_69 : decode cX11_keep 69 = .ok (.aload_n 0, 1) := by decide +kernel
theorem dX11_keep_70 : decode cX11_keep 70 = .ok (.getfield 189, 3) := by decide +kernel
theorem dX11_keep_73 : decode cX11_keep 73 = .ok (.iconst 1, 1) := by decide +kernel
theorem dX11_keep_74 : decode cX11_keep 74 = .ok (.isub, 1) := by decide +kernel
theorem dX11_keep_75 : decode cX11_keep 75 = .ok (.ireturn, 1) := by decide +kernel
theorem dX11_undo_0 : decode cX11_undo 0 = .ok (.aload_n 0, 1) := by decide +kernel
theorem dX11_undo_1 : decode cX11_undo 1 = .ok (.iconst 0, 1) := by decide +kernel
theorem dX11_undo_2 : decode cX11_undo 2 = .ok (.putfield 83, 3) := by decide +kernel
theorem dX11_undo_5 : decode cX11_undo 5 = .ok (.aload_n 0, 1) := by decide +kernel
theorem dX11_undo_6 : decode cX11_undo 6 = .ok (.getfield 155, 3) := by decide +kernel
theorem dX11_undo_9 : decode cX11_undo 9 = .ok (.ifCond .ne 5, 3) := by decide +kernel
theorem dX11_undo_12 : decode cX11_undo 12 = .ok (.iconst (-1), 1) := by decide +kernel
theorem dX11_undo_13 : decode cX11_undo 13 = .ok (.ireturn, 1) := by decide +kernel
theorem dX11_undo_14 : decode cX11_undo 14 = .ok (.aload_n 0, 1) := by decide +kernel
theorem dX11_undo_15 : decode cX11_undo 15 = .ok (.dup, 1) := by decide +kernel
theorem dX11_undo_16 : decode cX11_undo 16 = .ok (.getfield 155, 3) := by decide +kernel
theorem dX11_undo_19 : decode cX11_undo 19 = .ok (.iconst 1, 1) := by decide +kernel
theorem dX11_undo_20 : decode cX11_undo 20 = .ok (.isub, 1) := by decide +kernel
theorem dX11_undo_21 : decode cX11_undo 21 = .ok (.putfield 155, 3) := by decide +kernel
theorem dX11_undo_24 : decode cX11_undo 24 = .ok (.iconst 0, 1) := by decide +kernel
theorem dX11_undo_25 : decode cX11_undo 25 = .ok (.istore_n 1, 1) := by decide +kernel
theorem dX11_undo_26 : decode cX11_undo 26 = .ok (.iload_n 1, 1) := by decide +kernel
theorem dX11_undo_27 : decode cX11_undo 27 = .ok (.bipush 38, 2) := by decide +kernel
theorem dX11_undo_29 : decode cX11_undo 29 = .ok (.if_icmp .ge 29, 3) := by decide +kernel
theorem dX11_undo_32 : decode cX11_undo 32 = .ok (.aload_n 0, 1) := by decide +kernel
theorem dX11_undo_33 : decode cX11_undo 33 = .ok (.getfield 13, 3) := by decide +kernel
theorem dX11_undo_36 : decode cX11_undo 36 = .ok (.iload_n 1, 1) := by decide +kernel
theorem dX11_undo_37 : decode cX11_undo 37 = .ok (.aload_n 0, 1) := by decide +kernel
theorem dX11_undo_38 : decode cX11_undo 38 = .ok (.getfield 35, 3) := by decide +kernel
theorem dX11_undo_41 : decode cX11_undo 41 = .ok (.bipush 38, 2) := by decide +kernel
theorem dX11_undo_43 : decode cX11_undo 43 = .ok (.aload_n 0, 1) := by decide +kernel
theorem dX11_undo_44 : decode cX11_undo 44 = .ok (.getfield 155, 3) := by decide +kernel
theorem dX11_undo_47 : decode cX11_undo 47 = .ok (.imul, 1) := by decide +kernel
theorem dX11_undo_48 : decode cX11_undo 48 = .ok (.iload_n 1, 1) := by decide +kernel
theorem dX11_undo_49 : decode cX11_undo 49 = .ok (.iadd, 1) := by decide +kernel
theorem dX11_undo_50 : decode cX11_undo 50 = .ok (.iaload, 1) := by decide +kernel
theorem dX11_undo_51 : decode cX11_undo 51 = .ok (.iastore, 1) := by decide +kernel
theorem dX11_undo_52 : decode cX11_undo 52 = .ok (.iinc 1 1, 3) := by decide +kernel
theorem dX11_undo_55 : decode cX11_undo 55 = .ok (.goto (-29), 3) := by decide +kernel
theorem dX11_undo_58 : decode cX11_undo 58 = .ok (.aload_n 0, 1) := by decide +kernel
theorem dX11_undo_59 : decode cX11_undo 59 = .ok (.getfield 155, 3) := by decide +kernel
theorem dX11_undo_62 : decode cX11_undo 62 = .ok (.ireturn, 1) := by decide +kernel
theorem dX11_remember_0 : decode cX11_remember 0 = .ok (.aload_n 0, 1) := by decide +kernel
theorem dX11_remember_1 : decode cX11_remember 1 = .ok (.getfield 155, 3) := by decide +kernel
theorem dX11_remember_4 : decode cX11_remember 4 = .ok (.bipush 40, 2) := by decide +kernel
theorem dX11_remember_6 : decode cX11_remember 6 = .ok (.if_icmp .ne 43, 3) := by decide +kernel
theorem dX11_remember_9 : decode cX11_remember 9 = .ok (.iconst 0, 1) := by decide +kernel
theorem dX11_remember_10 : decode cX11_remember 10 = .ok (.istore_n 1, 1) := by decide +kernel
theorem dX11_remember_11 : decode cX11_remember 11 = .ok (.iload_n 1, 1) := by decide +kernel
theorem dX11_remember_12 : decode cX11_remember 12 = .ok (.sipush 1482, 3) := by decide +kernel
theorem dX11_remember_15 : decode cX11_remember 15 = .ok (.if_icmp .ge 24, 3) := by decide +kernel
theorem dX11_remember_18 : decode cX11_remember 18 = .ok (.aload_n 0, 1) := by decide +kernel
theorem dX11_remember_19 : decode cX11_remember 19 = .ok (.getfield 35, 3) := by decide +kernel
theorem dX11_remember_22 : decode cX11_remember 22 = .ok (.iload_n 1, 1) := by decide +kernel
theorem dX11_remember_23 : decode cX11_remember 23 = .ok (.aload_n 0, 1) := by decide +kernel
theorem dX11_remember_24 : decode cX11_remember 24 = .ok (.getfield 35, 3) := by decide +kernel
theorem dX11_remember_27 : decode cX11_remember 27 = .ok (.iload_n 1, 1) := by decide +kernel
theorem dX11_remember_28 : decode cX11_remember 28 = .ok (.bipush 38, 2) := by decide +kernel
theorem dX11_remember_30 : decode cX11_remember 30 = .ok (.iadd, 1) := by decide +kernel
theorem dX11_remember_31 : decode cX11_remember 31 = .ok (.iaload, 1) := by decide +kernel
theorem dX11_remember_32 : decode cX11_remember 32 = .ok (.iastore, 1) := by decide +kernel
theorem dX11_remember_33 : decode cX11_remember 33 = .ok (.iinc 1 1, 3) := by decide +kernel
theorem dX11_remember_36 : decode cX11_remember 36 = .ok (.goto (-25), 3) := by decide +kernel
theorem dX11_remember_39 : decode cX11_remember 39 = .ok (.aload_n 0, 1) := by decide +kernel
theorem dX11_remember_40 : decode cX11_remember 40 = .ok (.dup, 1) := by decide +kernel
theorem dX11_remember_41 : decode cX11_remember 41 = .ok (.getfield 155, 3) := by decide +kernel
theorem dX11_remember_44 : decode cX11_remember 44 = .ok (.iconst 1, 1) := by decide +kernel
theorem dX11_remember_45 : decode cX11_remember 45 = .ok (.isub, 1) := by decide +kernel
theorem dX11_remember_46 : decode cX11_remember 46 = .ok (.putfield 155, 3) := by decide +kernel
theorem dX11_remember_49 : decode cX11_remember 49 = .ok (.iconst 0, 1) := by decide +kernel
theorem dX11_remember_50 : decode cX11_remember 50 = .ok (.istore_n 1, 1) := by decide +kernel
theorem dX11_remember_51 : decode cX11_remember 51 = .ok (.iload_n 1, 1) := by decide +kernel
theorem dX11_remember_52 : decode cX11_remember 52 = .ok (.bipush 38, 2) := by decide +kernel
theorem dX11_remember_54 : decode cX11_remember 54 = .ok (.if_icmp .ge 29, 3) := by decide +kernel
theorem dX11_remember_57 : decode cX11_remember 57 = .ok (.aload_n 0, 1) := by decide +kernel
theorem dX11_remember_58 : decode cX11_remember 58 = .ok (.getfield 35, 3) := by decide +kernel
theorem dX11_remember_61 : decode cX11_remember 61 = .ok (.bipush 38, 2) := by decide +kernel
theorem dX11_remember_63 : decode cX11_remember 63 = .ok (.aload_n 0, 1) := by decide +kernel
theorem dX11_remember_64 : decode cX11_remember 64 = .ok (.getfield 155, 3) := by decide +kernel
theorem dX11_remember_67 : decode cX11_remember 67 = .ok (.imul, 1) := by decide +kernel
theorem dX11_remember_68 : decode cX11_remember 68 = .ok (.iload_n 1, 1) := by decide +kernel
theorem dX11_remember_69 : decode cX11_remember 69 = .ok (.iadd, 1) := by decide +kernel
theorem dX11_remember_70 : decode cX11_remember 70 = .ok (.aload_n 0, 1) := by decide +kernel
theorem dX11_remember_71 : decode cX11_remember 71 = .ok (.getfield 13, 3) := by decide +kernel
theorem dX11_remember_74 : decode cX11_remember 74 = .ok (.iload_n 1, 1) := by decide +kernel
theorem dX11_remember_75 : decode cX11_remember 75 = .ok (.iaload, 1) := by decide +kernel
theorem dX11_remember_76 : decode cX11_remember 76 = .ok (.iastore, 1) := by decide +kernel
theorem dX11_remember_77 : decode cX11_remember 77 = .ok (.iinc 1 1, 3) := by decide +kernel
theorem dX11_remember_80 : decode cX11_remember 80 = .ok (.goto (-29), 3) := by decide +kernel
theorem dX11_remember_83 : decode cX11_remember 83 = .ok (.aload_n 0, 1) := by decide +kernel
theorem dX11_remember_84 : decode cX11_remember 84 = .ok (.dup, 1) := by decide +kernel
theorem dX11_remember_85 : decode cX11_remember 85 = .ok (.getfield 155, 3) := by decide +kernel
theorem dX11_remember_88 : decode cX11_remember 88 = .ok (.iconst 1, 1) := by decide +kernel
theorem dX11_remember_89 : decode cX11_remember 89 = .ok (.iadd, 1) := by decide +kernel
theorem dX11_remember_90 : decode cX11_remember 90 = .ok (.putfield 155, 3) := by decide +kernel
theorem dX11_remember_93 : decode cX11_remember 93 = .ok (.return_, 1) := by decide +kernel
theorem dX11_image_0 : decode cX11_image 0 = .ok (.aload_n 0, 1) := by decide +kernel
theorem dX11_image_1 : decode cX11_image 1 = .ok (.iconst 0, 1) := by decide +kernel
theorem dX11_image_2 : decode cX11_image 2 = .ok (.putfield 83, 3) := by decide +kernel
theorem dX11_image_5 : decode cX11_image 5 = .ok (.aload_n 0, 1) := by decide +kernel
theorem dX11_image_6 : decode cX11_image 6 = .ok (.getfield 13, 3) := by decide +kernel
theorem dX11_image_9 : decode cX11_image 9 = .ok (.bipush 36, 2) := by decide +kernel
theorem dX11_image_11 : decode cX11_image 11 = .ok (.iaload, 1) := by decide +kernel
theorem dX11_image_12 : decode cX11_image 12 = .ok (.ifCond .ne 5, 3) := by decide +kernel
theorem dX11_image_15 : decode cX11_image 15 = .ok (.iconst (-1), 1) := by decide +kernel
theorem dX11_image_16 : decode cX11_image 16 = .ok (.ireturn, 1) := by decide +kernel
theorem dX11_image_17 : decode cX11_image 17 = .ok (.aload_n 0, 1) := by decide +kernel
theorem dX11_image_18 : decode cX11_image 18 = .ok (.getfield 13, 3) := by decide +kernel
theorem dX11_image_21 : decode cX11_image 21 = .ok (.aload_n 0, 1) := by decide +kernel
theorem dX11_image_22 : decode cX11_image 22 = .ok (.getfield 80, 3) := by decide +kernel
theorem dX11_image_25 : decode cX11_image 25 = .ok (.invokestatic 170, 3) := by decide +kernel
theorem dX11_image_28 : decode cX11_image 28 = .ok (.aload_n 0, 1) := by decide +kernel
theorem dX11_image_29 : decode cX11_image 29 = .ok (.aload_n 0, 1) := by decide +kernel
theorem dX11_image_30 : decode cX11_image 30 = .ok (.getfield 189, 3) := by decide +kernel
theorem dX11_image_33 : decode cX11_image 33 = .ok (.putfield 349, 3) := by decide +kernel
theorem dX11_image_36 : decode cX11_image 36 = .ok (.aload_n 0, 1) := by decide +kernel
theorem dX11_image_37 : decode cX11_image 37 = .ok (.iconst 1, 1) := by decide +kernel
theorem dX11_image_38 : decode cX11_image 38 = .ok (.putfield 352, 3) := by decide +kernel
theorem dX11_image_41 : decode cX11_image 41 = .ok (.aload_n 0, 1) := by decide +kernel
theorem dX11_image_42 : decode cX11_image 42 = .ok (.getfield 189, 3) := by decide +kernel
theorem dX11_image_45 : decode cX11_image 45 = .ok (.ireturn, 1) := by decide +kernel
theorem dX11_back_0 : decode cX11_back 0 = .ok (.aload_n 0, 1) := by decide +kernel
theorem dX11_back_1 : decode cX11_back 1 = .ok (.iconst 0, 1) := by decide +kernel
theorem dX11_back_2 : decode cX11_back 2 = .ok (.putfield 83, 3) := by decide +kernel
theorem dX11_back_5 : decode cX11_back 5 = .ok (.aload_n 0, 1) := by decide +kernel
theorem dX11_back_6 : decode cX11_back 6 = .ok (.getfield 352, 3) := by decide +kernel
theorem dX11_back_9 : decode cX11_back 9 = .ok (.ifCond .ne 5, 3) := by decide +kernel
theorem dX11_back_12 : decode cX11_back 12 = .ok (.iconst (-1), 1) := by decide +kernel
theorem dX11_back_13 : decode cX11_back 13 = .ok (.ireturn, 1) := by decide +kernel
theorem dX11_back_14 : decode cX11_back 14 = .ok (.aload_n 0, 1) := by decide +kernel
theorem dX11_back_15 : decode cX11_back 15 = .ok (.getfield 80, 3) := by decide +kernel
theorem dX11_back_18 : decode cX11_back 18 = .ok (.aload_n 0, 1) := by decide +kernel
theorem dX11_back_19 : decode cX11_back 19 = .ok (.getfield 13, 3) := by decide +kernel
theorem dX11_back_22 : decode cX11_back 22 = .ok (.invokestatic 170, 3) := by decide +kernel
theorem dX11_back_25 : decode cX11_back 25 = .ok (.aload_n 0, 1) := by decide +kernel
theorem dX11_back_26 : decode cX11_back 26 = .ok (.aload_n 0, 1) := by decide +kernel
theorem dX11_back_27 : decode cX11_back 27 = .ok (.getfield 349, 3) := by decide +kernel
theorem dX11_back_30 : decode cX11_back 30 = .ok (.putfield 189, 3) := by decide +kernel
theorem dX11_back_33 : decode cX11_back 33 = .ok (.aload_n 0, 1) := by decide +kernel
theorem dX11_back_34 : decode cX11_back 34 = .ok (.iconst 0, 1) := by decide +kernel
theorem dX11_back_35 : decode cX11_back 35 = .ok (.putfield 155, 3) := by decide +kernel
theorem dX11_back_38 : decode cX11_back 38 = .ok (.aload_n 0, 1) := by decide +kernel
theorem dX11_back_39 : decode cX11_back 39 = .ok (.getfield 189, 3) := by decide +kernel
theorem dX11_back_42 : decode cX11_back 42 = .ok (.ireturn, 1) := by decide +kernel
-- keep
def opKeep (α : aS) : Int32 × aS := if (tT α).1 = 0 ∨ (tK α).1 = 4 then (-1, α) else (nI (tK α).1, α.1, α.2.1, ((tK α).1 + 1, fun k => if k = (tK α).1 then tT α else (tK α).2 k), α.2.2.2)
theorem mo_keep {σ : sg} {x : aW} {α : aS} (h : MInv σ α) (ok : aOK α) : Mt mX11_keep 0 0 0 [.ref i_M] (wd σ x) (MPost σ x (opKeep α).1 (opKeep α).2) := by
  refine Mt.of MI_X11_keep (Nat.le_of_ble_eq_true rfl) (fun X hC hR hT => ?_)
  have hT1 : σ.2.2 i_m_now 36 = nI (tT α).1 := h.2.1.1
  have hK1 : σ.1 i_M 12 = nI (tK α).1 := h.2.2.1.1
  have hK4 : (tK α).1 ≤ 4 := ok.2.2.2.1.1
  have key : ¬ ((tT α).1 = 0 ∨ (tK α).1 = 4) → ∀ n, n ≤ 38 → ∀ g : Nat → Int32, (∀ q, g q = if 38 * (tK α).1 ≤ q ∧ q < 38 * (tK α).1 + n then σ.2.2 i_m_now (q - 38 * (tK α).1) else σ.2.2 i_m_kept q) → Rw mX11_keep X 27 [some (.ref i_M), some (.int (nI n))] [] (wd (sA (sG σ i_M 0 0) i_m_kept g) x) 0 0 := by
    intro hne
    refine up_loop 38 ?_ ?_
    · intro g hg
      refine R_iload_n (i := 1) hC dX11_keep_27 rfl rfl (R_bipush (v := 38) hC dX11_keep_28 (by decide) ?_)
      refine R_icmp_ge hC 59 dX11_keep_30 (by decide) (fun _ => ?_) (fun h => absurd (by decide) h)
      refine R_aload_n (i := 0) hC dX11_keep_59 rfl rfl (R_dup hC dX11_keep_60 rfl (R_gI hC dX11_keep_61 fl_X11_189 L_M rfl (R_iconst (v := 1) hC dX11_keep_64 (by decide) (R_iadd hC dX11_keep_65 (R_pI hC dX11_keep_66 fl_X11_189 L_M rfl (R_aload_n (i := 0) hC dX11_keep_69 rfl rfl (R_gI hC dX11_keep_70 fl_X11_189 L_M rfl ?_)))))))
      refine R_iconst (v := 1) hC dX11_keep_73 (by decide) (R_isub hC dX11_keep_74 ?_)
      exact R_iret hC hT dX11_keep_75 rfl (by
      have e2 : opKeep α = (nI (tK α).1, α.1, α.2.1, ((tK α).1 + 1, fun k => if k = (tK α).1 then tT α else (tK α).2 k), α.2.2.2) := if_neg hne
      have ev : (sG (sA (sG σ i_M 0 0) i_m_kept g) i_M 12 ((sA (sG σ i_M 0 0) i_m_kept g).1 i_M 12 + 1)).1 i_M 12 - 1 = nI (tK α).1 := by
        rw [sG_eq]
        show (sG σ i_M 0 0).1 i_M 12 + 1 - 1 = _
        rw [sG_nk (by decide), hK1, Int32.add_sub_cancel]
      rw [ev, e2]
      refine MPost.i ?_ (((CEq.rf σ).g (Nat.le_refl _)).a (by decide) |>.g (Nat.le_refl _))
      obtain ⟨q1, q3, ⟨q4, q4b⟩, q5, q6, q7, q8⟩ := h
      refine ⟨?_, ?_, ⟨?_, fun k hk => ?_⟩, ?_, ?_, ?_, ?_⟩
      · rw [sG_nk (by decide)]; exact q1
      · exact q3
      · rw [sG_eq]; show (sG σ i_M 0 0).1 i_M 12 + 1 = _; rw [sG_nk (by decide), hK1]; exact (nI_succ _).symm
      · have hk : k < (tK α).1 + 1 := hk
        by_cases e : k = (tK α).1
        · subst e
          show TR (fun q => (sA (sG σ i_M 0 0) i_m_kept g).2.2 i_m_kept (38 * (tK α).1 + q)) (if (tK α).1 = (tK α).1 then tT α else _)
          rw [if_pos rfl, sA_eq]
          exact q3.congr ok.2.2.1 (fun z hz => by rw [hg, if_pos (by omega), Nat.add_sub_cancel_left])
        · show TR (fun q => (sA (sG σ i_M 0 0) i_m_kept g).2.2 i_m_kept (38 * k + q)) (if k = (tK α).1 then tT α else (tK α).2 k)
          rw [if_neg e, sA_eq]
          exact (q4b k (by omega)).congr (ok.2.2.2.1.2 k (by omega)).1 (fun z hz => by rw [hg, if_neg (by omega)])
      · rw [sG_nk (by decide)]; exact q5
      · rw [sG_nk (by decide)]; exact q6
      · exact q7
      · rw [sG_nk (by decide), sG_nk (by decide)]; exact q8)
    · intro n hn ih g hg
      refine R_iload_n (i := 1) hC dX11_keep_27 rfl rfl (R_bipush (v := 38) hC dX11_keep_28 (by decide) ?_)
      refine R_icmp_ge hC 59 dX11_keep_30 (by decide) (fun h => absurd h (nI_ge (b := 38) hn (by decide))) (fun _ => ?_)
      refine R_aload_n (i := 0) hC dX11_keep_33 rfl rfl (R_gR hC dX11_keep_34 fl_X11_23 L_M rfl (R_bipush (v := 38) hC dX11_keep_37 (by decide) (R_aload_n (i := 0) hC dX11_keep_39 rfl rfl (R_gI hC dX11_keep_40 fl_X11_189 L_M rfl ?_))))
      refine R_top (y := nI (tK α).1) (by show (sG σ i_M 0 0).1 i_M 12 = _; rw [sG_nk (by decide), hK1]) ?_
      refine R_imul hC dX11_keep_43 (R_iload_n (i := 1) hC dX11_keep_44 rfl rfl (R_iadd hC dX11_keep_45 (R_aload_n (i := 0) hC dX11_keep_46 rfl rfl (R_gR hC dX11_keep_47 fl_X11_13 L_M rfl (R_iload_n (i := 1) hC dX11_keep_50 rfl rfl (R_aI hC dX11_keep_51 L_m_now _ rfl (by omega) (by decide) ?_))))))
      refine R_top (y := σ.2.2 i_m_now n) (by rw [sA_ne (by decide)]; rfl) ?_
      refine R_sI hC dX11_keep_52 L_m_kept (38 * (tK α).1 + n) (n38 _ n) (by omega) (by decide) ?_
      refine R_wd (by rw [sA_eq, sA_sA]) ?_
      refine R_iinc hC dX11_keep_53 rfl (inc1 _) (by decide) rfl (R_goto hC 27 dX11_keep_56 (by decide) ?_)
      exact ih _ (fun q => by
      unfold upd
      by_cases e : q = 38 * (tK α).1 + n
      · rw [if_pos e, if_pos (by omega), e, Nat.add_sub_cancel_left]
      · rw [if_neg e, hg]
        by_cases e2 : 38 * (tK α).1 ≤ q ∧ q < 38 * (tK α).1 + n
        · rw [if_pos e2, if_pos (by omega)]
        · rw [if_neg e2, if_neg (by omega)])
  refine R_aload_n (i := 0) hC dX11_keep_0 rfl rfl (R_iconst (v := 0) hC dX11_keep_1 (by decide) (R_pI hC dX11_keep_2 fl_X11_83 L_M rfl (R_aload_n (i := 0) hC dX11_keep_5 rfl rfl (R_gR hC dX11_keep_6 fl_X11_13 L_M rfl (R_bipush (v := 36) hC dX11_keep_9 (by decide) (R_aI hC dX11_keep_11 L_m_now 36 rfl (by decide) (by decide) ?_))))))
  refine R_top (y := nI (tT α).1) hT1 ?_
  refine R_if_eq hC 23 dX11_keep_12 (by decide) (fun h12 => ?_) (fun h12 => ?_)
  · refine R_iconst (v := (-1)) hC dX11_keep_23 (by decide) ?_
    exact R_iret hC hT dX11_keep_24 rfl (by
    have e2 : opKeep α = (-1, α) := if_pos (by first | exact Or.inl ((T0_iff ok).mp h12) | exact Or.inr ((nI_eq (b := 4) (by omega) (by decide)).mp h20))
    rw [e2]; exact MPost.i (M_thr h 0) ((CEq.rf σ).g (Nat.le_refl _)))
  · refine R_aload_n (i := 0) hC dX11_keep_15 rfl rfl (R_gI hC dX11_keep_16 fl_X11_189 L_M rfl ?_)
    refine R_top (y := nI (tK α).1) (by rw [sG_nk (by decide)]; exact hK1) ?_
    refine R_iconst (v := 4) hC dX11_keep_19 (by decide) ?_
    refine R_icmp_ne hC 25 dX11_keep_20 (by decide) (fun h20 => ?_) (fun h20 => ?_)
    · refine R_iconst (v := 0) hC dX11_keep_25 (by decide) (R_istore_n (i := 1) hC dX11_keep_26 rfl (by decide) rfl ?_)
      (refine R_wd (τ := sA (sG σ i_M 0 0) i_m_kept (σ.2.2 i_m_kept)) (by exact (sA_self (sG σ i_M 0 0) i_m_kept).symm) ?_; exact key (fun q => q.elim (fun q => h12 ((T0_iff ok).mpr q)) (fun q => h20 (by rw [q]; rfl))) 0 (by decide) _ (fun q => by rw [if_neg (by omega)]))
    · refine R_iconst (v := (-1)) hC dX11_keep_23 (by decide) ?_
      exact R_iret hC hT dX11_keep_24 rfl (by
      have e2 : opKeep α = (-1, α) := if_pos (by first | exact Or.inl ((T0_iff ok).mp h12) | exact Or.inr ((nI_eq (b := 4) (by omega) (by decide)).mp h20))
      rw [e2]; exact MPost.i (M_thr h 0) ((CEq.rf σ).g (Nat.le_refl _)))
-- undo
def opUndo (α : aS) : Int32 × aS := if (tP α).1 = 0 then (-1, α) else (nI ((tP α).1 - 1), α.1, (tP α).2 ((tP α).1 - 1), α.2.2.1, α.2.2.2.1, ((tP α).1 - 1, (tP α).2), α.2.2.2.2.2)
theorem nI_dec {n : Nat} (h : n ≠ 0) : nI n - 1 = nI (n - 1) := by
  have q := nI_pred (n - 1)
  rwa [show n - 1 + 1 = n by omega] at q
theorem mo_undo {σ : sg} {x : aW} {α : aS} (h : MInv σ α) (ok : aOK α) : Mt mX11_undo 0 0 0 [.ref i_M] (wd σ x) (MPost σ x (opUndo α).1 (opUndo α).2) := by
  refine Mt.of MI_X11_undo (Nat.le_of_ble_eq_true rfl) (fun X hC hR hT => ?_)
  have hP1 : σ.1 i_M 15 = nI (tP α).1 := h.2.2.2.2.1.1
  have hP4 : (tP α).1 ≤ 40 := ok.2.2.2.2.2.1.1
  have key : ∀ p, (tP α).1 = p + 1 → ∀ n, n ≤ 38 → Rw mX11_undo X 26 [some (.ref i_M), some (.int (nI n))] [] (wd (sA (sG (sG σ i_M 0 0) i_M 15 (nI p)) i_m_now (cpy (fun q => σ.2.2 i_m_undoRow (38 * p + q)) (σ.2.2 i_m_now) n)) x) 0 0 := by
    intro p hp
    refine up_loop 38 ?_ ?_
    · refine R_iload_n (i := 1) hC dX11_undo_26 rfl rfl (R_bipush (v := 38) hC dX11_undo_27 (by decide) ?_)
      refine R_icmp_ge hC 58 dX11_undo_29 (by decide) (fun _ => ?_) (fun h => absurd (by decide) h)
      refine R_aload_n (i := 0) hC dX11_undo_58 rfl rfl (R_gI hC dX11_undo_59 fl_X11_155 L_M rfl ?_)
      exact R_iret hC hT dX11_undo_62 rfl (by
      have e2 : opUndo α = (nI p, α.1, (tP α).2 p, α.2.2.1, α.2.2.2.1, (p, (tP α).2), α.2.2.2.2.2) := by
        unfold opUndo; rw [if_neg (by omega), show (tP α).1 - 1 = p by omega]
      have ev : (sA (sG (sG σ i_M 0 0) i_M 15 (nI p)) i_m_now (cpy (fun q => σ.2.2 i_m_undoRow (38 * p + q)) (σ.2.2 i_m_now) 38)).1 i_M 15 = nI p := sG_eq (sG σ i_M 0 0) i_M 15 (nI p)
      rw [ev, e2]
      refine MPost.i ?_ ((((CEq.rf σ).g (Nat.le_refl _)).g (Nat.le_refl _)).a (by decide))
      obtain ⟨q1, q3, q4, q5, ⟨q6, q6b⟩, q7, q8⟩ := h
      refine ⟨⟨?_, q1.2⟩, ?_, ⟨?_, q4.2⟩, ⟨?_, q5.2⟩, ⟨sG_eq (sG σ i_M 0 0) i_M 15 (nI p), fun k hk => q6b k (by have hk : k < p := hk; omega)⟩, q7, ?_⟩
      · show (sG (sG σ i_M 0 0) i_M 15 (nI p)).1 i_M 2 = _; rw [sG_nk (by decide), sG_nk (by decide)]; exact q1.1
      · rw [sA_eq]; exact (q6b p (by omega)).congr (ok.2.2.2.2.2.1.2 p (by omega)) (fun z hz => by unfold cpy; rw [if_pos hz])
      · show (sG (sG σ i_M 0 0) i_M 15 (nI p)).1 i_M 12 = _; rw [sG_nk (by decide), sG_nk (by decide)]; exact q4.1
      · show (sG (sG σ i_M 0 0) i_M 15 (nI p)).1 i_M 13 = _; rw [sG_nk (by decide), sG_nk (by decide)]; exact q5.1
      · show (sG (sG σ i_M 0 0) i_M 15 (nI p)).1 i_M 34 = _ ∧ (_ → _ ∧ (sG (sG σ i_M 0 0) i_M 15 (nI p)).1 i_M 33 = _); rw [sG_nk (by decide), sG_nk (by decide), sG_nk (by decide), sG_nk (by decide)]; exact q8)
    · intro n hn ih
      refine R_iload_n (i := 1) hC dX11_undo_26 rfl rfl (R_bipush (v := 38) hC dX11_undo_27 (by decide) ?_)
      refine R_icmp_ge hC 58 dX11_undo_29 (by decide) (fun h => absurd h (nI_ge (b := 38) hn (by decide))) (fun _ => ?_)
      refine R_aload_n (i := 0) hC dX11_undo_32 rfl rfl (R_gR hC dX11_undo_33 fl_X11_13 L_M rfl (R_iload_n (i := 1) hC dX11_undo_36 rfl rfl (R_aload_n (i := 0) hC dX11_undo_37 rfl rfl (R_gR hC dX11_undo_38 fl_X11_35 L_M rfl (R_bipush (v := 38) hC dX11_undo_41 (by decide) (R_aload_n (i := 0) hC dX11_undo_43 rfl rfl (R_gI hC dX11_undo_44 fl_X11_155 L_M rfl ?_)))))))
      refine R_top (y := nI p) (sG_eq (sG σ i_M 0 0) i_M 15 (nI p)) ?_
      refine R_imul hC dX11_undo_47 (R_iload_n (i := 1) hC dX11_undo_48 rfl rfl (R_iadd hC dX11_undo_49 (R_aI hC dX11_undo_50 L_m_undoRow (38 * p + n) (n38 p n) (by omega) (by decide) ?_)))
      refine R_top (y := σ.2.2 i_m_undoRow (38 * p + n)) (by rw [sA_ne (by decide)]; rfl) ?_
      refine R_sI hC dX11_undo_51 L_m_now _ rfl (by omega) (by decide) ?_
      refine R_wd (τ := sA (sG (sG σ i_M 0 0) i_M 15 (nI p)) i_m_now (cpy (fun q => σ.2.2 i_m_undoRow (38 * p + q)) (σ.2.2 i_m_now) (n + 1))) (by rw [sA_eq, sA_sA]; exact congrArg _ (cpy_s (fun q => σ.2.2 i_m_undoRow (38 * p + q)) _ n)) ?_
      refine R_iinc hC dX11_undo_52 rfl (inc1 _) (by decide) rfl (R_goto hC 26 dX11_undo_55 (by decide) ?_)
      exact ih
  refine R_aload_n (i := 0) hC dX11_undo_0 rfl rfl (R_iconst (v := 0) hC dX11_undo_1 (by decide) (R_pI hC dX11_undo_2 fl_X11_83 L_M rfl (R_aload_n (i := 0) hC dX11_undo_5 rfl rfl (R_gI hC dX11_undo_6 fl_X11_155 L_M rfl ?_))))
  refine R_top (y := nI (tP α).1) (by rw [sG_nk (by decide)]; exact hP1) ?_
  refine R_if_ne hC 14 dX11_undo_9 (by decide) (fun h9 => ?_) (fun h9 => ?_)
  · refine R_aload_n (i := 0) hC dX11_undo_14 rfl rfl (R_dup hC dX11_undo_15 rfl (R_gI hC dX11_undo_16 fl_X11_155 L_M rfl (R_iconst (v := 1) hC dX11_undo_19 (by decide) (R_isub hC dX11_undo_20 ?_))))
    have h0 : (tP α).1 ≠ 0 := fun q => h9 (by rw [q]; rfl)
    refine R_top (y := nI ((tP α).1 - 1)) (by rw [sG_nk (by decide), hP1]; exact nI_dec h0) ?_
    refine R_pI hC dX11_undo_21 fl_X11_155 L_M rfl (R_iconst (v := 0) hC dX11_undo_24 (by decide) (R_istore_n (i := 1) hC dX11_undo_25 rfl (by decide) rfl ?_))
    (refine R_wd (τ := sA (sG (sG σ i_M 0 0) i_M 15 (nI ((tP α).1 - 1))) i_m_now (cpy (fun q => σ.2.2 i_m_undoRow (38 * ((tP α).1 - 1) + q)) (σ.2.2 i_m_now) 0)) (by rw [cpy_0]; exact (sA_self (sG (sG σ i_M 0 0) i_M 15 (nI ((tP α).1 - 1))) i_m_now).symm) ?_; exact key _ (by omega) 0 (by decide))
  · refine R_iconst (v := (-1)) hC dX11_undo_12 (by decide) ?_
    exact R_iret hC hT dX11_undo_13 rfl (by
    have h0 : (tP α).1 = 0 := (nI_eq (b := 0) (by omega) (by decide)).mp h9
    have e2 : opUndo α = (-1, α) := if_pos h0
    rw [e2]; exact MPost.i (M_thr h 0) ((CEq.rf σ).g (Nat.le_refl _)))
-- image, back
def opImage (α : aS) : Int32 × aS := if (tT α).1 = 0 then (-1, α) else (nI (tK α).1, α.1, α.2.1, α.2.2.1, α.2.2.2.1, α.2.2.2.2.1, α.2.2.2.2.2.1, (true, tT α, (tK α).1))
theorem mo_image {σ : sg} {x : aW} {α : aS} (h : MInv σ α) (ok : aOK α) : Mt mX11_image 1 0 0 [.ref i_M] (wd σ x) (MPost σ x (opImage α).1 (opImage α).2) := by
  refine Mt.of MI_X11_image (Nat.le_of_ble_eq_true rfl) (fun X hC hR hT => ?_)
  have hT1 : σ.2.2 i_m_now 36 = nI (tT α).1 := h.2.1.1
  refine R_aload_n (i := 0) hC dX11_image_0 rfl rfl (R_iconst (v := 0) hC dX11_image_1 (by decide) (R_pI hC dX11_image_2 fl_X11_83 L_M rfl (R_aload_n (i := 0) hC dX11_image_5 rfl rfl (R_gR hC dX11_image_6 fl_X11_13 L_M rfl (R_bipush (v := 36) hC dX11_image_9 (by decide) (R_aI hC dX11_image_11 L_m_now 36 rfl (by decide) (by decide) ?_))))))
  refine R_top (y := nI (tT α).1) hT1 ?_
  refine R_if_ne hC 17 dX11_image_12 (by decide) (fun h12 => ?_) (fun h12 => ?_)
  · refine R_aload_n (i := 0) hC dX11_image_17 rfl rfl (R_gR hC dX11_image_18 fl_X11_13 L_M rfl (R_aload_n (i := 0) hC dX11_image_21 rfl rfl (R_gR hC dX11_image_22 fl_X11_80 L_M rfl ?_)))
    refine R_S2v hC hR dX11_image_25 MS_X11_copy ml_X11_170 (s_copy _ _ _ _ L_m_now L_m_imageRow (by decide)) (by decide) ⟨by decide, by decide⟩ (Nat.le_of_ble_eq_true rfl) ?_
    refine R_aload_n (i := 0) hC dX11_image_28 rfl rfl (R_aload_n (i := 0) hC dX11_image_29 rfl rfl (R_gI hC dX11_image_30 fl_X11_189 L_M rfl (R_pI hC dX11_image_33 fl_X11_349 L_M rfl (R_aload_n (i := 0) hC dX11_image_36 rfl rfl (R_iconst (v := 1) hC dX11_image_37 (by decide) (R_pZ hC dX11_image_38 fl_X11_352 L_M rfl (by first | exact Or.inl rfl | exact Or.inr rfl) (R_aload_n (i := 0) hC dX11_image_41 rfl rfl ?_)))))))
    refine R_gI hC dX11_image_42 fl_X11_189 L_M rfl ?_
    exact R_iret hC hT dX11_image_45 rfl (by
    have e2 : opImage α = (nI (tK α).1, α.1, α.2.1, α.2.2.1, α.2.2.2.1, α.2.2.2.2.1, α.2.2.2.2.2.1, (true, tT α, (tK α).1)) := if_neg (fun q => h12 ((T0_iff ok).mpr q))
    obtain ⟨q1, q3, q4, q5, q6, q7, q8⟩ := h
    have ev : (sG (sG (sA (sG σ i_M 0 0) i_m_imageRow (cpy ((sG σ i_M 0 0).2.2 i_m_now) ((sG σ i_M 0 0).2.2 i_m_imageRow) 38)) i_M 33 ((sA (sG σ i_M 0 0) i_m_imageRow (cpy ((sG σ i_M 0 0).2.2 i_m_now) ((sG σ i_M 0 0).2.2 i_m_imageRow) 38)).1 i_M 12)) i_M 34 1).1 i_M 12 = nI (tK α).1 := by
      rw [sG_nk (by decide), sG_nk (by decide)]; show (sG σ i_M 0 0).1 i_M 12 = _; rw [sG_nk (by decide)]; exact q4.1
    rw [ev, e2]
    refine MPost.i ?_ (((((CEq.rf σ).g (Nat.le_refl _)).a (by decide)).g (Nat.le_refl _)).g (Nat.le_refl _))
    have e3 : (sA (sG σ i_M 0 0) i_m_imageRow (cpy ((sG σ i_M 0 0).2.2 i_m_now) ((sG σ i_M 0 0).2.2 i_m_imageRow) 38)).1 i_M 12 = nI (tK α).1 := by
      show (sG σ i_M 0 0).1 i_M 12 = _; rw [sG_nk (by decide)]; exact q4.1
    refine ⟨⟨?_, q1.2⟩, q3, ⟨?_, q4.2⟩, ⟨?_, q5.2⟩, ⟨?_, q6.2⟩, q7, sG_eq _ _ _ _, fun _ => ⟨?_, ?_⟩⟩
    · rw [sG_nk (by decide), sG_nk (by decide)]; show (sG σ i_M 0 0).1 i_M 2 = _; rw [sG_nk (by decide)]; exact q1.1
    · rw [sG_nk (by decide), sG_nk (by decide)]; exact e3
    · rw [sG_nk (by decide), sG_nk (by decide)]; show (sG σ i_M 0 0).1 i_M 13 = _; rw [sG_nk (by decide)]; exact q5.1
    · rw [sG_nk (by decide), sG_nk (by decide)]; show (sG σ i_M 0 0).1 i_M 15 = _; rw [sG_nk (by decide)]; exact q6.1
    · show TR ((sA (sG σ i_M 0 0) i_m_imageRow _).2.2 i_m_imageRow) (tT α)
      rw [sA_eq]; exact q3.congr ok.2.2.1 (fun z hz => by unfold cpy; rw [if_pos hz]; rfl)
    · rw [sG_nk (by decide), sG_eq]; exact e3)
  · refine R_iconst (v := (-1)) hC dX11_image_15 (by decide) ?_
    exact R_iret hC hT dX11_image_16 rfl (by
    have e2 : opImage α = (-1, α) := if_pos ((T0_iff ok).mp h12)
    rw [e2]; exact MPost.i (M_thr h 0) ((CEq.rf σ).g (Nat.le_refl _)))
def opBack (α : aS) : Int32 × aS := if (tI α).1 = false then (-1, α) else (nI (tI α).2.2, α.1, (tI α).2.1, ((tI α).2.2, (tK α).2), α.2.2.2.1, (0, (tP α).2), α.2.2.2.2.2)
theorem mo_back {σ : sg} {x : aW} {α : aS} (h : MInv σ α) (ok : aOK α) : Mt mX11_back 1 0 0 [.ref i_M] (wd σ x) (MPost σ x (opBack α).1 (opBack α).2) := by
  refine Mt.of MI_X11_back (Nat.le_of_ble_eq_true rfl) (fun X hC hR hT => ?_)
  have hI : σ.1 i_M 34 = (if (tI α).1 then 1 else 0) := h.2.2.2.2.2.2.1
  by_cases hi : (tI α).1 = true
  · rw [hi, if_pos rfl] at hI
    refine R_aload_n (i := 0) hC dX11_back_0 rfl rfl (R_iconst (v := 0) hC dX11_back_1 (by decide) (R_pI hC dX11_back_2 fl_X11_83 L_M rfl (R_aload_n (i := 0) hC dX11_back_5 rfl rfl (R_gI hC dX11_back_6 fl_X11_352 L_M rfl ?_))))
    refine R_top (y := 1) (by rw [sG_nk (by decide)]; exact hI) ?_
    refine R_if_ne hC 14 dX11_back_9 (by decide) (fun _ => ?_) (fun h => absurd h (by decide))
    refine R_aload_n (i := 0) hC dX11_back_14 rfl rfl (R_gR hC dX11_back_15 fl_X11_80 L_M rfl (R_aload_n (i := 0) hC dX11_back_18 rfl rfl (R_gR hC dX11_back_19 fl_X11_13 L_M rfl ?_)))
    refine R_S2v hC hR dX11_back_22 MS_X11_copy ml_X11_170 (s_copy _ _ _ _ L_m_imageRow L_m_now (by decide)) (by decide) ⟨by decide, by decide⟩ (Nat.le_of_ble_eq_true rfl) ?_
    refine R_aload_n (i := 0) hC dX11_back_25 rfl rfl (R_aload_n (i := 0) hC dX11_back_26 rfl rfl (R_gI hC dX11_back_27 fl_X11_349 L_M rfl (R_pI hC dX11_back_30 fl_X11_189 L_M rfl (R_aload_n (i := 0) hC dX11_back_33 rfl rfl (R_iconst (v := 0) hC dX11_back_34 (by decide) (R_pI hC dX11_back_35 fl_X11_155 L_M rfl (R_aload_n (i := 0) hC dX11_back_38 rfl rfl ?_)))))))
    refine R_gI hC dX11_back_39 fl_X11_189 L_M rfl ?_
    exact R_iret hC hT dX11_back_42 rfl (by
    have e2 : opBack α = (nI (tI α).2.2, α.1, (tI α).2.1, ((tI α).2.2, (tK α).2), α.2.2.2.1, (0, (tP α).2), α.2.2.2.2.2) := if_neg (by rw [hi]; decide)
    obtain ⟨q1, q3, q4, q5, q6, q7, q8⟩ := h
    obtain ⟨i1, i2⟩ := q8.2 hi
    have e3 : (sA (sG σ i_M 0 0) i_m_now (cpy ((sG σ i_M 0 0).2.2 i_m_imageRow) ((sG σ i_M 0 0).2.2 i_m_now) 38)).1 i_M 33 = nI (tI α).2.2 := by
      show (sG σ i_M 0 0).1 i_M 33 = _; rw [sG_nk (by decide)]; exact i2
    rw [sG_nk (by decide), sG_eq, e3, e2]
    refine MPost.i ?_ (((((CEq.rf σ).g (Nat.le_refl _)).a (by decide)).g (Nat.le_refl _)).g (Nat.le_refl _))
    have ik := (ok.2.2.2.2.2.2 hi).2.2
    refine ⟨⟨?_, q1.2⟩, ?_, ⟨?_, fun k hk => q4.2 k (by have hk : k < (tI α).2.2 := hk; omega)⟩, ⟨?_, q5.2⟩, ⟨sG_eq _ _ _ _, fun k hk => absurd hk (Nat.not_lt_zero _)⟩, q7, ?_⟩
    · rw [sG_nk (by decide), sG_nk (by decide)]; show (sG σ i_M 0 0).1 i_M 2 = _; rw [sG_nk (by decide)]; exact q1.1
    · show TR ((sA (sG σ i_M 0 0) i_m_now _).2.2 i_m_now) (tI α).2.1
      rw [sA_eq]; exact i1.congr (ok.2.2.2.2.2.2 hi).1 (fun z hz => by unfold cpy; rw [if_pos hz]; rfl)
    · rw [sG_nk (by decide), sG_eq]
    · rw [sG_nk (by decide), sG_nk (by decide)]; show (sG σ i_M 0 0).1 i_M 13 = _; rw [sG_nk (by decide)]; exact q5.1
    · rw [sG_nk (by decide), sG_nk (by decide), sG_nk (by decide), sG_nk (by decide)]; show (sG σ i_M 0 0).1 i_M 34 = _ ∧ (_ → _ ∧ (sG σ i_M 0 0).1 i_M 33 = _); rw [sG_nk (by decide), sG_nk (by decide)]; exact q8)
  · have hi : (tI α).1 = false := by simpa using hi
    rw [hi, if_neg (by decide)] at hI
    refine R_aload_n (i := 0) hC dX11_back_0 rfl rfl (R_iconst (v := 0) hC dX11_back_1 (by decide) (R_pI hC dX11_back_2 fl_X11_83 L_M rfl (R_aload_n (i := 0) hC dX11_back_5 rfl rfl (R_gI hC dX11_back_6 fl_X11_352 L_M rfl ?_))))
    refine R_top (y := 0) (by rw [sG_nk (by decide)]; exact hI) ?_
    refine R_if_ne hC 14 dX11_back_9 (by decide) (fun h => absurd rfl h) (fun _ => ?_)
    refine R_iconst (v := (-1)) hC dX11_back_12 (by decide) ?_
    exact R_iret hC hT dX11_back_13 rfl (by
    have e2 : opBack α = (-1, α) := if_pos hi
    rw [e2]; exact MPost.i (M_thr h 0) ((CEq.rf σ).g (Nat.le_refl _)))
-- remember
def pushP (P : Nat × (Nat → tb)) (T : tb) : Nat × (Nat → tb) := if P.1 = 40 then (40, fun k => if k = 39 then T else P.2 (k + 1)) else (P.1 + 1, fun k => if k = P.1 then T else P.2 k)
/-- remember: the table comes to those that can be had back -/
theorem s_remember {σ : sg} {x : aW} {α : aS} (h : MInv σ α) (ok : aOK α) : Mt mX11_remember 0 0 0 [.ref i_M] (wd σ x) (fun r w => r = none ∧ ∃ p g, w = wd (sA (sG σ i_M 15 p) i_m_undoRow g) x ∧ MInv (sA (sG σ i_M 15 p) i_m_undoRow g) (α.1, α.2.1, α.2.2.1, α.2.2.2.1, pushP (tP α) (tT α), α.2.2.2.2.2)) := by
  refine Mt.of MI_X11_remember (Nat.le_of_ble_eq_true rfl) (fun X hC hR hT => ?_)
  have hP1 : σ.1 i_M 15 = nI (tP α).1 := h.2.2.2.2.1.1
  have hP4 : (tP α).1 ≤ 40 := ok.2.2.2.2.2.1.1
  -- the second loop: from p tables in the row g0
  have put : ∀ (p : Nat) (g0 : Nat → Int32), p ≤ 39 → (∀ τ g, τ = sA (sG σ i_M 15 (nI (p + 1))) i_m_undoRow g → (∀ q, g q = if 38 * p ≤ q ∧ q < 38 * p + 38 then σ.2.2 i_m_now (q - 38 * p) else g0 q) → MInv τ (α.1, α.2.1, α.2.2.1, α.2.2.2.1, pushP (tP α) (tT α), α.2.2.2.2.2)) →
      ∀ n, n ≤ 38 → ∀ g : Nat → Int32, (∀ q, g q = if 38 * p ≤ q ∧ q < 38 * p + n then σ.2.2 i_m_now (q - 38 * p) else g0 q) → Rw mX11_remember X 51 [some (.ref i_M), some (.int (nI n))] [] (wd (sA (sG σ i_M 15 (nI p)) i_m_undoRow g) x) 0 0 := by
    intro p g0 hp fin
    refine up_loop 38 ?_ ?_
    · intro g hg
      refine R_iload_n (i := 1) hC dX11_remember_51 rfl rfl (R_bipush (v := 38) hC dX11_remember_52 (by decide) ?_)
      refine R_icmp_ge hC 83 dX11_remember_54 (by decide) (fun _ => ?_) (fun h => absurd (by decide) h)
      refine R_aload_n (i := 0) hC dX11_remember_83 rfl rfl (R_dup hC dX11_remember_84 rfl (R_gI hC dX11_remember_85 fl_X11_155 L_M rfl (R_iconst (v := 1) hC dX11_remember_88 (by decide) (R_iadd hC dX11_remember_89 ?_))))
      refine R_top (y := nI (p + 1)) (by rw [show (sA (sG σ i_M 15 (nI p)) i_m_undoRow g).1 i_M 15 = nI p from sG_eq σ i_M 15 (nI p)]; exact (nI_succ p).symm) ?_
      refine R_pI hC dX11_remember_90 fl_X11_155 L_M rfl ?_
      refine R_wd (τ := sA (sG σ i_M 15 (nI (p + 1))) i_m_undoRow g) (by
        refine Prod.ext (funext fun a => funext fun b => ?_) rfl
        show (if a = i_M then (if b = 15 then nI (p + 1) else (if a = i_M then (if b = 15 then nI p else σ.1 a b) else σ.1 a b)) else (if a = i_M then (if b = 15 then nI p else σ.1 a b) else σ.1 a b)) = (if a = i_M then (if b = 15 then nI (p + 1) else σ.1 a b) else σ.1 a b)
        split
        · split <;> rfl
        · rfl) ?_
      exact R_vret hC hT dX11_remember_93 rfl ⟨rfl, _, g, rfl, fin _ g rfl hg⟩
    · intro n hn ih g hg
      refine R_iload_n (i := 1) hC dX11_remember_51 rfl rfl (R_bipush (v := 38) hC dX11_remember_52 (by decide) ?_)
      refine R_icmp_ge hC 83 dX11_remember_54 (by decide) (fun h => absurd h (nI_ge (b := 38) hn (by decide))) (fun _ => ?_)
      refine R_aload_n (i := 0) hC dX11_remember_57 rfl rfl (R_gR hC dX11_remember_58 fl_X11_35 L_M rfl (R_bipush (v := 38) hC dX11_remember_61 (by decide) (R_aload_n (i := 0) hC dX11_remember_63 rfl rfl (R_gI hC dX11_remember_64 fl_X11_155 L_M rfl ?_))))
      refine R_top (y := nI p) (sG_eq σ i_M 15 (nI p)) ?_
      refine R_imul hC dX11_remember_67 (R_iload_n (i := 1) hC dX11_remember_68 rfl rfl (R_iadd hC dX11_remember_69 (R_aload_n (i := 0) hC dX11_remember_70 rfl rfl (R_gR hC dX11_remember_71 fl_X11_13 L_M rfl (R_iload_n (i := 1) hC dX11_remember_74 rfl rfl (R_aI hC dX11_remember_75 L_m_now _ rfl (by omega) (by decide) ?_))))))
      refine R_top (y := σ.2.2 i_m_now n) (by rw [sA_ne (by decide)]; rfl) ?_
      refine R_sI hC dX11_remember_76 L_m_undoRow (38 * p + n) (n38 p n) (by omega) (by decide) ?_
      refine R_wd (by rw [sA_eq, sA_sA]) ?_
      refine R_iinc hC dX11_remember_77 rfl (inc1 _) (by decide) rfl (R_goto hC 51 dX11_remember_80 (by decide) ?_)
      exact ih _ (fun q => by
      unfold upd
      by_cases e : q = 38 * p + n
      · rw [if_pos e, if_pos (by omega), e, Nat.add_sub_cancel_left]
      · rw [if_neg e, hg]
        by_cases e2 : 38 * p ≤ q ∧ q < 38 * p + n
        · rw [if_pos e2, if_pos (by omega)]
        · rw [if_neg e2, if_neg (by omega)])
  have inv : ∀ (p : Nat) (Pt : Nat → tb) (τ : sg) (g : Nat → Int32), τ = sA (sG σ i_M 15 (nI p)) i_m_undoRow g → pushP (tP α) (tT α) = (p, Pt) → (∀ k, k < p → TR (fun q => g (38 * k + q)) (Pt k)) → MInv τ (α.1, α.2.1, α.2.2.1, α.2.2.2.1, pushP (tP α) (tT α), α.2.2.2.2.2) := by
    rintro p Pt τ g rfl e hg
    rw [e]
    obtain ⟨q1, q3, q4, q5, q6, q7, q8⟩ := h
    have nk : ∀ b, b ≠ 15 → (sA (sG σ i_M 15 (nI p)) i_m_undoRow g).1 i_M b = σ.1 i_M b := fun b hb => sG_nk (σ := σ) (i := i_M) (a := i_M) (v := nI p) hb
    refine ⟨⟨?_, q1.2⟩, q3, ⟨?_, q4.2⟩, ⟨?_, q5.2⟩, ⟨sG_eq σ i_M 15 (nI p), fun k hk => ?_⟩, q7, ?_⟩
    · exact (nk 2 (by decide)).trans q1.1
    · exact (nk 12 (by decide)).trans q4.1
    · exact (nk 13 (by decide)).trans q5.1
    · rw [sA_eq]; exact hg k hk
    · exact ⟨(nk 34 (by decide)).trans q8.1, fun z => ⟨(q8.2 z).1, (nk 33 (by decide)).trans (q8.2 z).2⟩⟩
  by_cases h40 : (tP α).1 = 40
  · have shift : ∀ n, n ≤ 1482 → ∀ g : Nat → Int32, (∀ q, g q = if q < n then σ.2.2 i_m_undoRow (q + 38) else σ.2.2 i_m_undoRow q) → Rw mX11_remember X 11 [some (.ref i_M), some (.int (nI n))] [] (wd (sA σ i_m_undoRow g) x) 0 0 := by
      refine up_loop 1482 ?_ ?_
      · intro g hg
        refine R_iload_n (i := 1) hC dX11_remember_11 rfl rfl (R_sipush (v := 1482) hC dX11_remember_12 (by decide) ?_)
        refine R_icmp_ge hC 39 dX11_remember_15 (by decide) (fun _ => ?_) (fun h => absurd (by decide) h)
        refine R_aload_n (i := 0) hC dX11_remember_39 rfl rfl (R_dup hC dX11_remember_40 rfl (R_gI hC dX11_remember_41 fl_X11_155 L_M rfl (R_iconst (v := 1) hC dX11_remember_44 (by decide) (R_isub hC dX11_remember_45 ?_))))
        refine R_top (y := nI 39) (by rw [show (sA σ i_m_undoRow g).1 i_M 15 = nI 40 from by rw [← h40]; exact hP1]; decide) ?_
        refine R_pI hC dX11_remember_46 fl_X11_155 L_M rfl (R_iconst (v := 0) hC dX11_remember_49 (by decide) (R_istore_n (i := 1) hC dX11_remember_50 rfl (by decide) rfl ?_))
        exact put 39 g (by decide) (fun τ g2 e1 hg2 => inv 40 _ τ g2 e1 (if_pos h40) (fun k hk => by
        show TR _ (if k = 39 then tT α else (tP α).2 (k + 1))
        by_cases e : k = 39
        · subst e
          rw [if_pos rfl]
          exact h.2.1.congr ok.2.2.1 (fun z hz => by rw [hg2, if_pos (by omega), Nat.add_sub_cancel_left])
        · rw [if_neg e]
          exact (h.2.2.2.2.1.2 (k + 1) (by omega)).congr (ok.2.2.2.2.2.1.2 (k + 1) (by omega)) (fun z hz => by
            rw [hg2, if_neg (by omega), hg, if_pos (by omega), show 38 * k + z + 38 = 38 * (k + 1) + z by omega]))) 0 (by decide) g (fun q => by rw [if_neg (by omega)])
      · intro n hn ih g hg
        refine R_iload_n (i := 1) hC dX11_remember_11 rfl rfl (R_sipush (v := 1482) hC dX11_remember_12 (by decide) ?_)
        refine R_icmp_ge hC 39 dX11_remember_15 (by decide) (fun h => absurd h (nI_ge (b := 1482) hn (by decide))) (fun _ => ?_)
        refine R_aload_n (i := 0) hC dX11_remember_18 rfl rfl (R_gR hC dX11_remember_19 fl_X11_35 L_M rfl (R_iload_n (i := 1) hC dX11_remember_22 rfl rfl (R_aload_n (i := 0) hC dX11_remember_23 rfl rfl (R_gR hC dX11_remember_24 fl_X11_35 L_M rfl (R_iload_n (i := 1) hC dX11_remember_27 rfl rfl (R_bipush (v := 38) hC dX11_remember_28 (by decide) (R_iadd hC dX11_remember_30 ?_)))))))
        refine R_aI hC dX11_remember_31 L_m_undoRow (n + 38) (by rw [show (38 : Int32) = nI 38 from rfl, nI_add]) (by omega) (by decide) ?_
        refine R_top (y := σ.2.2 i_m_undoRow (n + 38)) (by rw [sA_eq, hg, if_neg (by omega)]) ?_
        refine R_sI hC dX11_remember_32 L_m_undoRow n rfl (by omega) (by decide) ?_
        refine R_wd (by rw [sA_eq, sA_sA]) ?_
        refine R_iinc hC dX11_remember_33 rfl (inc1 _) (by decide) rfl (R_goto hC 11 dX11_remember_36 (by decide) ?_)
        exact ih _ (fun q => by
        unfold upd
        by_cases e : q = n
        · rw [if_pos e, if_pos (by omega), e]
        · rw [if_neg e, hg]
          by_cases e2 : q < n
          · rw [if_pos e2, if_pos (by omega)]
          · rw [if_neg e2, if_neg (by omega)])
    refine R_aload_n (i := 0) hC dX11_remember_0 rfl rfl (R_gI hC dX11_remember_1 fl_X11_155 L_M rfl ?_)
    refine R_top (y := nI 40) (by rw [hP1, h40]) ?_
    refine R_bipush (v := 40) hC dX11_remember_4 (by decide) ?_
    skip
    refine R_icmp_ne hC 49 dX11_remember_6 (by decide) (fun h => absurd rfl h) (fun _ => ?_)
    refine R_iconst (v := 0) hC dX11_remember_9 (by decide) (R_istore_n (i := 1) hC dX11_remember_10 rfl (by decide) rfl ?_)
    (refine R_wd (τ := sA σ i_m_undoRow (σ.2.2 i_m_undoRow)) (by rw [sA_self]) ?_; exact shift 0 (by decide) _ (fun q => by rw [if_neg (by omega)]))
  · refine R_aload_n (i := 0) hC dX11_remember_0 rfl rfl (R_gI hC dX11_remember_1 fl_X11_155 L_M rfl ?_)
    refine R_top (y := nI (tP α).1) hP1 ?_
    refine R_bipush (v := 40) hC dX11_remember_4 (by decide) ?_
    refine R_icmp_ne hC 49 dX11_remember_6 (by decide) (fun _ => ?_) (fun h => absurd h (fun q => h40 ((nI_eq (b := 40) (by omega) (by decide)).mp q)))
    refine R_iconst (v := 0) hC dX11_remember_49 (by decide) (R_istore_n (i := 1) hC dX11_remember_50 rfl (by decide) rfl ?_)
    refine R_wd (τ := sA (sG σ i_M 15 (nI (tP α).1)) i_m_undoRow (σ.2.2 i_m_undoRow)) (by
      have e1 : sG σ i_M 15 (nI (tP α).1) = σ := by
        refine Prod.ext (funext fun a => funext fun b => ?_) rfl
        show (if a = i_M then (if b = 15 then nI (tP α).1 else σ.1 a b) else σ.1 a b) = σ.1 a b
        split
        · rename_i ea; split
          · rename_i eb; rw [ea, eb, hP1]
          · rfl
        · rfl
      rw [e1, sA_self]) ?_
    exact put (tP α).1 (σ.2.2 i_m_undoRow) (by omega) (fun τ g2 e1 hg2 => inv ((tP α).1 + 1) _ τ g2 e1 (if_neg h40) (fun k hk => by
      show TR _ (if k = (tP α).1 then tT α else (tP α).2 k)
      by_cases e : k = (tP α).1
      · subst e
        rw [if_pos rfl]
        exact h.2.1.congr ok.2.2.1 (fun z hz => by rw [hg2, if_pos (by omega), Nat.add_sub_cancel_left])
      · rw [if_neg e]
        exact (h.2.2.2.2.1.2 k (by omega)).congr (ok.2.2.2.2.2.1.2 k (by omega)) (fun z hz => by rw [hg2, if_neg (by omega)]))) 0 (by decide) _ (fun q => by rw [if_neg (by omega)])
end
section
theorem MInv.now {σ : sg} {α : aS} (h : MInv σ α) {g : Nat → Int32} {T : tb} (hg : TR g T) : MInv (sA σ i_m_now g) (α.1, T, α.2.2) := by
  obtain ⟨q1, q3, q4, q5, q6, q7, q8⟩ := h
  exact ⟨q1, by rw [sA_eq]; exact hg, q4, q5, q6, q7, q8⟩
abbrev withZ (α : aS) (j : Nat) : aS := (α.1, α.2.1, α.2.2.1, α.2.2.2.1, α.2.2.2.2.1, (fun i => if i = j then tZ α i + 1 else tZ α i), α.2.2.2.2.2.2)
theorem MInv.stat {σ : sg} {α : aS} (h : MInv σ α) {j : Nat} (hj : j < 4) : MInv (sA σ i_m_status (upd (σ.2.2 i_m_status) j (σ.2.2 i_m_status j + 1))) (withZ α j) := by
  obtain ⟨q1, q3, q4, q5, q6, q7, q8⟩ := h
  refine ⟨q1, q3, q4, q5, q6, fun i hi => ?_, q8⟩
  rw [sA_eq]
  show upd _ j _ i = if i = j then tZ α i + 1 else tZ α i
  unfold upd
  by_cases e : i = j
  · rw [if_pos e, if_pos e, e, q7 j hj]
  · rw [if_neg e, if_neg e, q7 i hi]
abbrev pushT (α : aS) (T : tb) : aS := (α.1, T, α.2.2.1, α.2.2.2.1, pushP (tP α) (tT α), α.2.2.2.2.2)
noncomputable def opChange (α : aS) (r c v : Int32) : Int32 × aS := by classical exact
  if (tT α).1 = 0 then (-1000000, withZ α 0)
  else if ¬ (inR (tT α).1 r ∧ inR (tT α).2.1 c ∧ sml v) then (-1000000, withZ α 1)
  else if ((tT α).2.2 r.toNatClampNeg c.toNatClampNeg = v) then (-1000000, withZ α 2)
  else ((tT α).2.2 r.toNatClampNeg c.toNatClampNeg, pushT α ((tT α).1, (tT α).2.1, fun i j => if i = r.toNatClampNeg ∧ j = c.toNatClampNeg then v else (tT α).2.2 i j))
theorem dX11_change_0 : decode cX11_change 0 = .ok (.aload_n 0, 1) := by decide +kernel
theorem dX11_change_1 : decode cX11_change 1 = .ok (.iconst 0, 1) := by decide +kernel
theorem dX11_change_2 : decode cX11_change 2 = .ok (.putfield 83, 3) := by decide +kernel
theorem dX11_change_5 : decode cX11_change 5 = .ok (.aload_n 0, 1) := by decide +kernel
theorem dX11_change_6 : decode cX11_change 6 = .ok (.getfield 13, 3) := by decide +kernel
theorem dX11_change_9 : decode cX11_change 9 = .ok (.bipush 36, 2) := by decide +kernel
theorem dX11_change_11 : decode cX11_change 11 = .ok (.iaload, 1) := by decide +kernel
theorem dX11_change_12 : decode cX11_change 12 = .ok (.ifCond .ne 7, 3) := by decide +kernel
theorem dX11_change_15 : decode cX11_change 15 = .ok (.iconst 0, 1) := by decide +kernel
theorem dX11_change_16 : decode cX11_change 16 = .ok (.goto 52, 3) := by decide +kernel
theorem dX11_change_19 : decode cX11_change 19 = .ok (.aload_n 0, 1) := by decide +kernel
theorem dX11_change_20 : decode cX11_change 20 = .ok (.aload_n 0, 1) := by decide +kernel
theorem dX11_change_21 : decode cX11_change 21 = .ok (.getfield 13, 3) := by decide +kernel
theorem dX11_change_24 : decode cX11_change 24 = .ok (.iload_n 1, 1) := by decide +kernel
theorem dX11_change_25 : decode cX11_change 25 = .ok (.iload_n 2, 1) := by decide +kernel
theorem dX11_change_26 : decode cX11_change 26 = .ok (.invokevirtual 158, 3) := by decide +kernel
theorem dX11_change_29 : decode cX11_change 29 = .ok (.ifCond .eq 15, 3) := by decide +kernel
theorem dX11_change_32 : decode cX11_change 32 = .ok (.iload_n 3, 1) := by decide +kernel
theorem dX11_change_33 : decode cX11_change 33 = .ok (.i2l, 1) := by decide +kernel
theorem dX11_change_34 : decode cX11_change 34 = .ok (.ldc2_w 162, 3) := by decide +kernel
theorem dX11_change_37 : decode cX11_change 37 = .ok (.lconst 1, 1) := by decide +kernel
theorem dX11_change_38 : decode cX11_change 38 = .ok (.invokestatic 140, 3) := by decide +kernel
theorem dX11_change_41 : decode cX11_change 41 = .ok (.ifCond .ne 7, 3) := by decide +kernel
theorem dX11_change_44 : decode cX11_change 44 = .ok (.iconst 1, 1) := by decide +kernel
theorem dX11_change_45 : decode cX11_change 45 = .ok (.goto 23, 3) := by decide +kernel
theorem dX11_change_48 : decode cX11_change 48 = .ok (.aload_n 0, 1) := by decide +kernel
theorem dX11_change_49 : decode cX11_change 49 = .ok (.getfield 13, 3) := by decide +kernel
theorem dX11_change_52 : decode cX11_change 52 = .ok (.bipush 6, 2) := by decide +kernel
theorem dX11_change_54 : decode cX11_change 54 = .ok (.iload_n 1, 1) := by decide +kernel
theorem dX11_change_55 : decode cX11_change 55 = .ok (.imul, 1) := by decide +kernel
theorem dX11_change_56 : decode cX11_change 56 = .ok (.iload_n 2, 1) := by decide +kernel
theorem dX11_change_57 : decode cX11_change 57 = .ok (.iadd, 1) := by decide +kernel
theorem dX11_change_58 : decode cX11_change 58 = .ok (.iaload, 1) := by decide +kernel
theorem dX11_change_59 : decode cX11_change 59 = .ok (.iload_n 3, 1) := by decide +kernel
theorem dX11_change_60 : decode cX11_change 60 = .ok (.if_icmp .ne 7, 3) := by decide +kernel
theorem dX11_change_63 : decode cX11_change 63 = .ok (.iconst 2, 1) := by decide +kernel
theorem dX11_change_64 : decode cX11_change 64 = .ok (.goto 4, 3) := by decide +kernel
theorem dX11_change_67 : decode cX11_change 67 = .ok (.iconst (-1), 1) := by decide +kernel
theorem dX11_change_68 : decode cX11_change 68 = .ok (.istore 4, 2) := by decide +kernel
theorem dX11_change_70 : decode cX11_change 70 = .ok (.iload 4, 2) := by decide +kernel
theorem dX11_change_72 : decode cX11_change 72 = .ok (.iconst (-1), 1) := by decide +kernel
theorem dX11_change_73 : decode cX11_change 73 = .ok (.if_icmp .eq 14, 3) := by decide +kernel
theorem dX11_change_76 : decode cX11_change 76 = .ok (.aload_n 0, 1) := by decide +kernel
theorem dX11_change_77 : decode cX11_change 77 = .ok (.iload 4, 2) := by decide +kernel
theorem dX11_change_79 : decode cX11_change 79 = .ok (.invokevirtual 164, 3) := by decide +kernel
theorem dX11_change_82 : decode cX11_change 82 = .ok (.istore 5, 2) := by decide +kernel
theorem dX11_change_84 : decode cX11_change 84 = .ok (.ldc 133, 2) := by decide +kernel
theorem dX11_change_86 : decode cX11_change 86 = .ok (.ireturn, 1) := by decide +kernel
theorem dX11_change_87 : decode cX11_change 87 = .ok (.aload_n 0, 1) := by decide +kernel
theorem dX11_change_88 : decode cX11_change 88 = .ok (.invokevirtual 167, 3) := by decide +kernel
theorem dX11_change_91 : decode cX11_change 91 = .ok (.aload_n 0, 1) := by decide +kernel
theorem dX11_change_92 : decode cX11_change 92 = .ok (.getfield 13, 3) := by decide +kernel
theorem dX11_change_95 : decode cX11_change 95 = .ok (.bipush 6, 2) := by decide +kernel
theorem dX11_change_97 : decode cX11_change 97 = .ok (.iload_n 1, 1) := by decide +kernel
theorem dX11_change_98 : decode cX11_change 98 = .ok (.imul, 1) := by decide +kernel
theorem dX11_change_99 : decode cX11_change 99 = .ok (.iload_n 2, 1) := by decide +kernel
theorem dX11_change_100 : decode cX11_change 100 = .ok (.iadd, 1) := by decide +kernel
theorem dX11_change_101 : decode cX11_change 101 = .ok (.iaload, 1) := by decide +kernel
theorem dX11_change_102 : decode cX11_change 102 = .ok (.istore 5, 2) := by decide +kernel
theorem dX11_change_104 : decode cX11_change 104 = .ok (.aload_n 0, 1) := by decide +kernel
theorem dX11_change_105 : decode cX11_change 105 = .ok (.getfield 13, 3) := by decide +kernel
theorem dX11_change_108 : decode cX11_change 108 = .ok (.bipush 6, 2) := by decide +kernel
theorem dX11_change_110 : decode cX11_change 110 = .ok (.iload_n 1, 1) := by decide +kernel
theorem dX11_change_111 : decode cX11_change 111 = .ok (.imul, 1) := by decide +kernel
theorem dX11_change_112 : decode cX11_change 112 = .ok (.iload_n 2, 1) := by decide +kernel
theorem dX11_change_113 : decode cX11_change 113 = .ok (.iadd, 1) := by decide +kernel
theorem dX11_change_114 : decode cX11_change 114 = .ok (.iload_n 3, 1) := by decide +kernel
theorem dX11_change_115 : decode cX11_change 115 = .ok (.iastore, 1) := by decide +kernel
theorem dX11_change_116 : decode cX11_change 116 = .ok (.iload 5, 2) := by decide +kernel
theorem dX11_change_118 : decode cX11_change 118 = .ok (.ireturn, 1) := by decide +kernel
theorem dX11_deal_0 : decode cX11_deal 0 = .ok (.aload_n 0, 1) := by decide +kernel
theorem dX11_deal_1 : decode cX11_deal 1 = .ok (.iconst 0, 1) := by decide +kernel
theorem dX11_deal_2 : decode cX11_deal 2 = .ok (.putfield 83, 3) := by decide +kernel
theorem dX11_deal_5 : decode cX11_deal 5 = .ok (.aload_n 0, 1) := by decide +kernel
theorem dX11_deal_6 : decode cX11_deal 6 = .ok (.aload_n 0, 1) := by decide +kernel
theorem dX11_deal_7 : decode cX11_deal 7 = .ok (.getfield 13, 3) := by decide +kernel
theorem dX11_deal_10 : decode cX11_deal 10 = .ok (.iload_n 1, 1) := by decide +kernel
theorem dX11_deal_11 : decode cX11_deal 11 = .ok (.iload_n 2, 1) := by decide +kernel
theorem dX11_deal_12 : decode cX11_deal 12 = .ok (.iload_n 3, 1) := by decide +kernel
theorem dX11_deal_13 : decode cX11_deal 13 = .ok (.invokevirtual 181, 3) := by decide +kernel
theorem dX11_deal_16 : decode cX11_deal 16 = .ok (.istore 4, 2) := by decide +kernel
theorem dX11_deal_18 : decode cX11_deal 18 = .ok (.iload 4, 2) := by decide +kernel
theorem dX11_deal_20 : decode cX11_deal 20 = .ok (.iconst (-1), 1) := by decide +kernel
theorem dX11_deal_21 : decode cX11_deal 21 = .ok (.if_icmp .eq 10, 3) := by decide +kernel
theorem dX11_deal_24 : decode cX11_deal 24 = .ok (.aload_n 0, 1) := by decide +kernel
theorem dX11_deal_25 : decode cX11_deal 25 = .ok (.iload 4, 2) := by decide +kernel
theorem dX11_deal_27 : decode cX11_deal 27 = .ok (.invokevirtual 164, 3) := by decide +kernel
theorem dX11_deal_30 : decode cX11_deal 30 = .ok (.ireturn, 1) := by decide +kernel
theorem dX11_deal_31 : decode cX11_deal 31 = .ok (.aload_n 0, 1) := by decide +kernel
theorem dX11_deal_32 : decode cX11_deal 32 = .ok (.invokevirtual 167, 3) := by decide +kernel
theorem dX11_deal_35 : decode cX11_deal 35 = .ok (.aload_n 0, 1) := by decide +kernel
theorem dX11_deal_36 : decode cX11_deal 36 = .ok (.aload_n 0, 1) := by decide +kernel
theorem dX11_deal_37 : decode cX11_deal 37 = .ok (.getfield 13, 3) := by decide +kernel
theorem dX11_deal_40 : decode cX11_deal 40 = .ok (.iload_n 1, 1) := by decide +kernel
theorem dX11_deal_41 : decode cX11_deal 41 = .ok (.iload_n 2, 1) := by decide +kernel
theorem dX11_deal_42 : decode cX11_deal 42 = .ok (.iload_n 3, 1) := by decide +kernel
theorem dX11_deal_43 : decode cX11_deal 43 = .ok (.invokevirtual 185, 3) := by decide +kernel
theorem dX11_deal_46 : decode cX11_deal 46 = .ok (.aload_n 0, 1) := by decide +kernel
theorem dX11_deal_47 : decode cX11_deal 47 = .ok (.getfield 155, 3) := by decide +kernel
theorem dX11_deal_50 : decode cX11_deal 50 = .ok (.ireturn, 1) := by decide +kernel
theorem mo_change {σ : sg} {x : aW} {α : aS} (h : MInv σ α) (ok : aOK α) (r c v : Int32) : Mt mX11_change 1 0 0 [.ref i_M, .int r, .int c, .int v] (wd σ x) (MPost σ x (opChange α r c v).1 (opChange α r c v).2) := by
  refine Mt.of MI_X11_change (Nat.le_of_ble_eq_true rfl) (fun X hC hR hT => ?_)
  have hT1 : σ.2.2 i_m_now 36 = nI (tT α).1 := h.2.1.1
  have hTB : TB (σ.2.2 i_m_now) (tT α) := h.2.1.TB ok.2.2.1
  have h1 := M_thr h 0
  have c1 : CEq σ (sG σ i_M 0 0) := (CEq.rf σ).g (Nat.le_refl _)
  have refu : ∀ j, j < 4 → opChange α r c v = (-1000000, withZ α j) → ∀ u5, Rw mX11_change X 68 [some (.ref i_M), some (.int r), some (.int c), some (.int v), none, u5] [.int (nI j)] (wd (sG σ i_M 0 0) x) 0 0 := by
    intro j hj e u5
    refine R_istore hC dX11_change_68 (by decide) rfl (R_iload hC dX11_change_70 rfl (R_iconst (v := (-1)) hC dX11_change_72 (by decide) ?_))
    refine R_icmp_eq hC 87 dX11_change_73 (by decide) (fun h => absurd h (fun q => absurd (congrArg Int32.toInt q) (by rw [nI_toInt (by omega)]; show ¬ (j : Int) = -1; omega))) (fun _ => ?_)
    refine R_aload_n (i := 0) hC dX11_change_76 rfl rfl (R_iload hC dX11_change_77 rfl ?_)
    refine R_V1i hC hR dX11_change_79 MV_X11_refused ml_X11_164 L_M rfl (s_refused _ _ j hj) (by decide) ⟨by decide, by decide⟩ (Nat.le_of_ble_eq_true rfl) ?_
    refine R_istore hC dX11_change_82 (by decide) rfl (R_ldc hC dX11_change_84 kc_X11_133 ?_)
    exact R_iret hC hT dX11_change_86 rfl (by rw [e]; exact MPost.i (h1.stat hj) (c1.a (by decide)))
  have e0 : (tT α).1 = 0 → opChange α r c v = (-1000000, withZ α 0) := fun q => by unfold opChange; rw [if_pos q]
  have e1 : ¬ (tT α).1 = 0 → ¬ (inR (tT α).1 r ∧ inR (tT α).2.1 c ∧ sml v) → opChange α r c v = (-1000000, withZ α 1) := fun q q2 => by unfold opChange; rw [if_neg q, if_pos q2]
  have good : ∀ i j : Nat, r = nI i → c = nI j → i < (tT α).1 → j < (tT α).2.1 → sml v → opChange α r c v = ((tT α).2.2 i j, pushT α ((tT α).1, (tT α).2.1, fun a b => if a = i ∧ b = j then v else (tT α).2.2 a b)) → ∀ u5, Rw mX11_change X 68 [some (.ref i_M), some (.int r), some (.int c), some (.int v), none, u5] [.int (-1)] (wd (sG σ i_M 0 0) x) 0 0 := by
    intro i j ei ej hi hj hv e3 u5
    have b1 := ok.2.2.1.1
    have b2 := ok.2.2.1.2.1
    refine R_istore hC dX11_change_68 (by decide) rfl (R_iload hC dX11_change_70 rfl (R_iconst (v := (-1)) hC dX11_change_72 (by decide) ?_))
    refine R_icmp_eq hC 87 dX11_change_73 (by decide) (fun _ => ?_) (fun h => absurd rfl h)
    refine R_aload_n (i := 0) hC dX11_change_87 rfl rfl ?_
    refine R_V0g hC hR dX11_change_88 MV_X11_remember ml_X11_167 L_M rfl (s_remember h1 ok) (by decide) ⟨by decide, by decide⟩ (Nat.le_of_ble_eq_true rfl) (fun r w1 hq => ?_)
    obtain ⟨rfl, p, g, rfl, hm⟩ := hq
    refine R_aload_n (i := 0) hC dX11_change_91 rfl rfl (R_gR hC dX11_change_92 fl_X11_13 L_M rfl (R_bipush (v := 6) hC dX11_change_95 (by decide) (R_iload_n (i := 1) hC dX11_change_97 rfl rfl (R_imul hC dX11_change_98 (R_iload_n (i := 2) hC dX11_change_99 rfl rfl (R_iadd hC dX11_change_100 (R_aI hC dX11_change_101 L_m_now (6 * i + j) (by rw [ei, ej]; exact n6 i j) (by omega) (by decide) ?_)))))))
    refine R_top (y := (tT α).2.2 i j) (h.2.1.2.2 i j hi hj) ?_
    refine R_istore hC dX11_change_102 (by decide) rfl (R_aload_n (i := 0) hC dX11_change_104 rfl rfl (R_gR hC dX11_change_105 fl_X11_13 L_M rfl (R_bipush (v := 6) hC dX11_change_108 (by decide) (R_iload_n (i := 1) hC dX11_change_110 rfl rfl (R_imul hC dX11_change_111 (R_iload_n (i := 2) hC dX11_change_112 rfl rfl (R_iadd hC dX11_change_113 ?_)))))))
    refine R_iload_n (i := 3) hC dX11_change_114 rfl rfl (R_sI hC dX11_change_115 L_m_now (6 * i + j) (by rw [ei, ej]; exact n6 i j) (by omega) (by decide) (R_iload hC dX11_change_116 rfl ?_))
    exact R_iret hC hT dX11_change_118 rfl (by
    rw [e3]
    refine MPost.i (hm.now (T := ((tT α).1, (tT α).2.1, fun a b => if a = i ∧ b = j then v else (tT α).2.2 a b)) ?_) (((c1.g (Nat.le_refl _)).a (by decide)).a (by decide))
    refine ⟨?_, ?_, fun a b ha hb => ?_⟩
    · have q := upd_36 (g := σ.2.2 i_m_now) (v := v) (k := 36) (Or.inl rfl) (show i < 6 by omega) (show j < 6 by omega); exact q.trans h.2.1.1
    · have q := upd_36 (g := σ.2.2 i_m_now) (v := v) (k := 37) (Or.inr rfl) (show i < 6 by omega) (show j < 6 by omega); exact q.trans h.2.1.2.1
    · have ha : a < (tT α).1 := ha
      have hb : b < (tT α).2.1 := hb
      have q := upd6 (g := σ.2.2 i_m_now) (v := v) (a := i) (b := j) (i := a) (j := b) (by omega) (by omega)
      refine q.trans ?_
      show (if a = i ∧ b = j then v else σ.2.2 i_m_now (6 * a + b)) = if a = i ∧ b = j then v else (tT α).2.2 a b
      rw [h.2.1.2.2 a b ha hb])
  refine R_aload_n (i := 0) hC dX11_change_0 rfl rfl (R_iconst (v := 0) hC dX11_change_1 (by decide) (R_pI hC dX11_change_2 fl_X11_83 L_M rfl (R_aload_n (i := 0) hC dX11_change_5 rfl rfl (R_gR hC dX11_change_6 fl_X11_13 L_M rfl (R_bipush (v := 36) hC dX11_change_9 (by decide) (R_aI hC dX11_change_11 L_m_now 36 rfl (by decide) (by decide) ?_))))))
  refine R_top (y := nI (tT α).1) hT1 ?_
  refine R_if_ne hC 19 dX11_change_12 (by decide) (fun h12 => ?_) (fun h12 => ?_)
  · have n0 : ¬ (tT α).1 = 0 := fun q => h12 ((T0_iff ok).mpr q)
    refine R_aload_n (i := 0) hC dX11_change_19 rfl rfl (R_aload_n (i := 0) hC dX11_change_20 rfl rfl (R_gR hC dX11_change_21 fl_X11_13 L_M rfl (R_iload_n (i := 1) hC dX11_change_24 rfl rfl (R_iload_n (i := 2) hC dX11_change_25 rfl rfl ?_))))
    refine R_V3i hC hR dX11_change_26 MV_X11_isCell ml_X11_158 L_M rfl (s_isCell _ _ _ L_m_now _ _) (by decide) ⟨by decide, by decide⟩ (Nat.le_of_ble_eq_true rfl) ?_
    refine R_if_eq hC 44 dX11_change_29 (by decide) (fun h29 => ?_) (fun h29 => ?_)
    · refine R_iconst (v := 1) hC dX11_change_44 (by decide) (R_goto hC 68 dX11_change_45 (by decide) ?_)
      first | exact good i j rfl rfl hi hj hv e3 _ | exact refu 0 (by decide) (e0 ((T0_iff ok).mp h12)) _ | exact refu 1 (by decide) (e1 n0 (fun q => b2i_0 h29 (hTB.inT_iff.mpr ⟨q.1, q.2.1⟩))) _ | exact refu 1 (by decide) (e1 n0 (fun q => ite0 h41 (sml_in.mp q.2.2))) _ | exact refu 2 (by decide) e2 _
    · refine R_iload_n (i := 3) hC dX11_change_32 rfl rfl (R_i2l hC dX11_change_33 (R_ldc2 hC dX11_change_34 kc_X11_162 (R_lconst (v := 1) hC dX11_change_37 (by decide) ?_)))
      refine R_S3i hC hR dX11_change_38 MS_X11_isIn ml_X11_140 (s_isInZ v (-1) 1 (-1) 1 (by decide) (by decide) _) (by decide) ⟨by decide, by decide⟩ (Nat.le_of_ble_eq_true rfl) ?_
      refine R_if_ne hC 48 dX11_change_41 (by decide) (fun h41 => ?_) (fun h41 => ?_)
      · obtain ⟨i, j, rfl, rfl, hi, hj⟩ := hTB.in (b2i_ne h29)
        have hv : sml v := sml_in.mpr (ite1 h41)
        have hin : inR (tT α).1 (nI i) ∧ inR (tT α).2.1 (nI j) ∧ sml v := ⟨inR_n hi ok.2.2.1.1, inR_n hj ok.2.2.1.2.1, hv⟩
        have c2 : (nI i).toNatClampNeg = i := nI_clamp (by have := ok.2.2.1.1; omega)
        have c3 : (nI j).toNatClampNeg = j := nI_clamp (by have := ok.2.2.1.2.1; omega)
        have b1 := ok.2.2.1.1
        have b2 := ok.2.2.1.2.1
        refine R_aload_n (i := 0) hC dX11_change_48 rfl rfl (R_gR hC dX11_change_49 fl_X11_13 L_M rfl (R_bipush (v := 6) hC dX11_change_52 (by decide) (R_iload_n (i := 1) hC dX11_change_54 rfl rfl (R_imul hC dX11_change_55 (R_iload_n (i := 2) hC dX11_change_56 rfl rfl (R_iadd hC dX11_change_57 (R_aI hC dX11_change_58 L_m_now (6 * i + j) (n6 i j) (by omega) (by decide) ?_)))))))
        refine R_top (y := (tT α).2.2 i j) (h.2.1.2.2 i j hi hj) ?_
        refine R_iload_n (i := 3) hC dX11_change_59 rfl rfl ?_
        refine R_icmp_ne hC 67 dX11_change_60 (by decide) (fun h60 => ?_) (fun h60 => ?_)
        · have e3 : opChange α (nI i) (nI j) v = ((tT α).2.2 i j, pushT α ((tT α).1, (tT α).2.1, fun a b => if a = i ∧ b = j then v else (tT α).2.2 a b)) := by unfold opChange; rw [if_neg n0, if_neg (fun q => q hin), if_neg (by rw [c2, c3]; exact h60), c2, c3]
          refine R_iconst (v := (-1)) hC dX11_change_67 (by decide) ?_
          first | exact good i j rfl rfl hi hj hv e3 _ | exact refu 0 (by decide) (e0 ((T0_iff ok).mp h12)) _ | exact refu 1 (by decide) (e1 n0 (fun q => b2i_0 h29 (hTB.inT_iff.mpr ⟨q.1, q.2.1⟩))) _ | exact refu 1 (by decide) (e1 n0 (fun q => ite0 h41 (sml_in.mp q.2.2))) _ | exact refu 2 (by decide) e2 _
        · have e2 : opChange α (nI i) (nI j) v = (-1000000, withZ α 2) := by unfold opChange; rw [if_neg n0, if_neg (fun q => q hin), if_pos (by rw [c2, c3]; exact h60)]
          refine R_iconst (v := 2) hC dX11_change_63 (by decide) (R_goto hC 68 dX11_change_64 (by decide) ?_)
          first | exact good i j rfl rfl hi hj hv e3 _ | exact refu 0 (by decide) (e0 ((T0_iff ok).mp h12)) _ | exact refu 1 (by decide) (e1 n0 (fun q => b2i_0 h29 (hTB.inT_iff.mpr ⟨q.1, q.2.1⟩))) _ | exact refu 1 (by decide) (e1 n0 (fun q => ite0 h41 (sml_in.mp q.2.2))) _ | exact refu 2 (by decide) e2 _
      · refine R_iconst (v := 1) hC dX11_change_44 (by decide) (R_goto hC 68 dX11_change_45 (by decide) ?_)
        first | exact good i j rfl rfl hi hj hv e3 _ | exact refu 0 (by decide) (e0 ((T0_iff ok).mp h12)) _ | exact refu 1 (by decide) (e1 n0 (fun q => b2i_0 h29 (hTB.inT_iff.mpr ⟨q.1, q.2.1⟩))) _ | exact refu 1 (by decide) (e1 n0 (fun q => ite0 h41 (sml_in.mp q.2.2))) _ | exact refu 2 (by decide) e2 _
  · refine R_iconst (v := 0) hC dX11_change_15 (by decide) (R_goto hC 68 dX11_change_16 (by decide) ?_)
    first | exact good i j rfl rfl hi hj hv e3 _ | exact refu 0 (by decide) (e0 ((T0_iff ok).mp h12)) _ | exact refu 1 (by decide) (e1 n0 (fun q => b2i_0 h29 (hTB.inT_iff.mpr ⟨q.1, q.2.1⟩))) _ | exact refu 1 (by decide) (e1 n0 (fun q => ite0 h41 (sml_in.mp q.2.2))) _ | exact refu 2 (by decide) e2 _
-- deal
noncomputable def opDeal (α : aS) (kd a b : Int32) : Int32 × aS := by classical exact
  (fun k => if stopZ (tT α) k a b = -1 then (nI (pushP (tP α) (tT α)).1, pushT α (doA k a.toNatClampNeg b.toNatClampNeg (tT α))) else (-1, withZ α (stopZ (tT α) k a b).toNatClampNeg)) (if 0 ≤ kd.toInt ∧ kd.toInt ≤ 7 then kd.toNatClampNeg else 8)
/-- the answers of stopZ -/
theorem stopZ_val (T : tb) (k : Nat) (a b : Int32) : stopZ T k a b = -1 ∨ ∃ j : Nat, j < 4 ∧ stopZ T k a b = nI j := by
  have h : stopZ T k a b = -1 ∨ stopZ T k a b = 0 ∨ stopZ T k a b = 1 ∨ stopZ T k a b = 2 ∨ stopZ T k a b = 3 := by
    unfold stopZ
    repeat' split
    all_goals simp
  rcases h with h | h | h | h | h
  · exact Or.inl h
  · exact Or.inr ⟨0, by decide, h⟩
  · exact Or.inr ⟨1, by decide, h⟩
  · exact Or.inr ⟨2, by decide, h⟩
  · exact Or.inr ⟨3, by decide, h⟩
/-- what it means that a deed can be -/
theorem stopZ_ok {T : tb} {k : Nat} {a b : Int32} (h : stopZ T k a b = -1) : ¬ T.1 = 0 ∧ k ≤ 7 ∧ ((k = 0 ∨ k = 6) → inR T.1 a) ∧ ((k = 1 ∨ k = 7) → inR T.2.1 a) ∧ (k = 2 → inR T.1 a ∧ inR T.1 b ∧ a ≠ b) ∧ (k = 3 → inR T.2.1 a ∧ inR T.2.1 b ∧ a ≠ b) ∧ (k = 4 → inR T.1 a ∧ inR T.2.1 b ∧ ¬ T.2.2 a.toNatClampNeg b.toNatClampNeg = 0 ∧ ∀ i j, i < T.1 → j < T.2.1 → sml (tturn a.toNatClampNeg b.toNatClampNeg T.2.2 i j)) ∧ (k = 6 → ¬ T.1 = 1) ∧ (k = 7 → ¬ T.2.1 = 1) := by
  unfold stopZ at h
  by_cases h0 : T.1 = 0
  · rw [if_pos h0] at h; exact absurd h (by decide)
  rw [if_neg h0] at h
  by_cases k0 : k = 0
  · subst k0
    rw [if_pos rfl] at h
    by_cases q : inR T.1 a
    · exact ⟨h0, by decide, fun _ => q, fun e => by omega, fun e => by omega, fun e => by omega, fun e => by omega, fun e => by omega, fun e => by omega⟩
    · rw [if_neg q] at h; exact absurd h (by decide)
  rw [if_neg k0] at h
  by_cases k1 : k = 1
  · subst k1
    rw [if_pos rfl] at h
    by_cases q : inR T.2.1 a
    · exact ⟨h0, by decide, fun e => by omega, fun _ => q, fun e => by omega, fun e => by omega, fun e => by omega, fun e => by omega, fun e => by omega⟩
    · rw [if_neg q] at h; exact absurd h (by decide)
  rw [if_neg k1] at h
  by_cases k2 : k = 2
  · subst k2
    rw [if_pos rfl] at h
    by_cases q : inR T.1 a ∧ inR T.1 b
    · rw [if_pos q] at h
      by_cases e : a = b
      · rw [if_pos e] at h; exact absurd h (by decide)
      · exact ⟨h0, by decide, fun e => by omega, fun e => by omega, fun _ => ⟨q.1, q.2, e⟩, fun e => by omega, fun e => by omega, fun e => by omega, fun e => by omega⟩
    · rw [if_neg q] at h; exact absurd h (by decide)
  rw [if_neg k2] at h
  by_cases k3 : k = 3
  · subst k3
    rw [if_pos rfl] at h
    by_cases q : inR T.2.1 a ∧ inR T.2.1 b
    · rw [if_pos q] at h
      by_cases e : a = b
      · rw [if_pos e] at h; exact absurd h (by decide)
      · exact ⟨h0, by decide, fun e => by omega, fun e => by omega, fun e => by omega, fun _ => ⟨q.1, q.2, e⟩, fun e => by omega, fun e => by omega, fun e => by omega⟩
    · rw [if_neg q] at h; exact absurd h (by decide)
  rw [if_neg k3] at h
  by_cases k4 : k = 4
  · subst k4
    rw [if_pos rfl] at h
    by_cases q : inR T.1 a ∧ inR T.2.1 b
    · rw [if_pos q] at h
      by_cases e : T.2.2 a.toNatClampNeg b.toNatClampNeg = 0
      · rw [if_pos e] at h; exact absurd h (by decide)
      · rw [if_neg e] at h
        by_cases e2 : ∀ i j, i < T.1 → j < T.2.1 → sml (tturn a.toNatClampNeg b.toNatClampNeg T.2.2 i j)
        · exact ⟨h0, by decide, fun e => by omega, fun e => by omega, fun e => by omega, fun e => by omega, fun _ => ⟨q.1, q.2, e, e2⟩, fun e => by omega, fun e => by omega⟩
        · rw [if_neg e2] at h; exact absurd h (by decide)
    · rw [if_neg q] at h; exact absurd h (by decide)
  rw [if_neg k4] at h
  by_cases k5 : k = 5
  · subst k5
    exact ⟨h0, by decide, fun e => by omega, fun e => by omega, fun e => by omega, fun e => by omega, fun e => by omega, fun e => by omega, fun e => by omega⟩
  rw [if_neg k5] at h
  by_cases k6 : k = 6
  · subst k6
    rw [if_pos rfl] at h
    by_cases q : inR T.1 a
    · rw [if_pos q] at h
      by_cases e : T.1 = 1
      · rw [if_pos e] at h; exact absurd h (by decide)
      · exact ⟨h0, by decide, fun _ => q, fun e => by omega, fun e => by omega, fun e => by omega, fun e => by omega, fun _ => e, fun e => by omega⟩
    · rw [if_neg q] at h; exact absurd h (by decide)
  rw [if_neg k6] at h
  by_cases k7 : k = 7
  · subst k7
    rw [if_pos rfl] at h
    by_cases q : inR T.2.1 a
    · rw [if_pos q] at h
      by_cases e : T.2.1 = 1
      · rw [if_pos e] at h; exact absurd h (by decide)
      · exact ⟨h0, by decide, fun e => by omega, fun _ => q, fun e => by omega, fun e => by omega, fun e => by omega, fun e => by omega, fun _ => e⟩
    · rw [if_neg q] at h; exact absurd h (by decide)
  rw [if_neg k7] at h
  exact absurd h (by decide)
/-- does, whatever the kind, where it can be -/
theorem s_does {σ : sg} {x : aW} {t : Nat} (ht : LY t (0, 38, [])) (hne : t ≠ i_m_trial) {T : tb} (hT0 : TB (σ.2.2 t) T) (ok : tbOK T) {k : Nat} {a b : Int32} (h : stopZ T k a b = -1) :
    Mt mX11_does 2 0 0 [.ref i_M, .ref t, .int (nI k), .int a, .int b] (wd σ x) (fun q w => q = none ∧ ∃ g h : Nat → Int32, w = wd (sA (sA σ i_m_trial h) t g) x ∧ TB g (doA k a.toNatClampNeg b.toNatClampNeg T)) := by
  obtain ⟨h0, hk, o1, o2, o3, o4, o5, o6, o7⟩ := stopZ_ok h
  have b1 := ok.1
  have b2 := ok.2.1
  have b3 := ok.2.2.1
  match k, hk with
  | 0, _ =>
    obtain ⟨i, rfl, hi, hi2⟩ := inR_i (o1 (Or.inl rfl))
    rw [nI_clamp hi2]; exact s_does0 σ x t ht hne T hT0 i hi b
  | 1, _ =>
    obtain ⟨i, rfl, hi, hi2⟩ := inR_i (o2 (Or.inl rfl))
    rw [nI_clamp hi2]; exact s_does1 σ x t ht hne T hT0 i hi b
  | 2, _ =>
    obtain ⟨u1, u2, u3⟩ := o3 rfl
    obtain ⟨i, rfl, hi, hi2⟩ := inR_i u1
    obtain ⟨j, rfl, hj, hj2⟩ := inR_i u2
    rw [nI_clamp hi2, nI_clamp hj2]; exact s_does2 σ x t ht hne T hT0 i j hi hj (fun e => u3 (by rw [e]))
  | 3, _ =>
    obtain ⟨u1, u2, u3⟩ := o4 rfl
    obtain ⟨i, rfl, hi, hi2⟩ := inR_i u1
    obtain ⟨j, rfl, hj, hj2⟩ := inR_i u2
    rw [nI_clamp hi2, nI_clamp hj2]; exact s_does3 σ x t ht hne T hT0 i j hi hj (fun e => u3 (by rw [e]))
  | 4, _ =>
    obtain ⟨u1, u2, u3, u4⟩ := o5 rfl
    obtain ⟨i, rfl, hi, hi2⟩ := inR_i u1
    obtain ⟨j, rfl, hj, hj2⟩ := inR_i u2
    rw [nI_clamp hi2, nI_clamp hj2] at u4 ⊢; exact s_does4 σ x t ht hne T hT0 i j hi hj u4
  | 5, _ => exact s_does5 σ x t ht hne T hT0 a b
  | 6, _ =>
    obtain ⟨i, rfl, hi, hi2⟩ := inR_i (o1 (Or.inr rfl))
    rw [nI_clamp hi2]; exact s_does6 σ x t ht hne T hT0 i hi (by have := o6 rfl; omega) b
  | 7, _ =>
    obtain ⟨i, rfl, hi, hi2⟩ := inR_i (o2 (Or.inr rfl))
    rw [nI_clamp hi2]; exact s_does7 σ x t ht hne T hT0 i hi (by have := o7 rfl; omega) b
theorem mo_deal {σ : sg} {x : aW} {α : aS} (h : MInv σ α) (ok : aOK α) (kd a b : Int32) : Mt mX11_deal 3 0 0 [.ref i_M, .int kd, .int a, .int b] (wd σ x) (MPost σ x (opDeal α kd a b).1 (opDeal α kd a b).2) := by
  refine Mt.of MI_X11_deal (Nat.le_of_ble_eq_true rfl) (fun X hC hR hT => ?_)
  have h1 := M_thr h 0
  have c1 : CEq σ (sG σ i_M 0 0) := (CEq.rf σ).g (Nat.le_refl _)
  have hTB : TB (σ.2.2 i_m_now) (tT α) := h.2.1.TB ok.2.2.1
  have fin : ∀ k g, (k ≤ 7 → kd = nI k) → opDeal α kd a b = (if stopZ (tT α) k a b = -1 then (nI (pushP (tP α) (tT α)).1, pushT α (doA k a.toNatClampNeg b.toNatClampNeg (tT α))) else (-1, withZ α (stopZ (tT α) k a b).toNatClampNeg)) → Rw mX11_deal X 16 [some (.ref i_M), some (.int kd), some (.int a), some (.int b), none] [.int (stopZ (tT α) k a b)] (wd (sA (sG σ i_M 0 0) i_m_trial g) x) 0 0 := by
    intro k g ek e
    have h2 : MInv (sA (sG σ i_M 0 0) i_m_trial g) α := h1.a (by decide)
    have c2 : CEq σ (sA (sG σ i_M 0 0) i_m_trial g) := c1.a (by decide)
    rcases stopZ_val (tT α) k a b with hs | ⟨j, hj, hs⟩
    · rw [if_pos hs] at e
      rw [hs]
      have hk := (stopZ_ok hs).2.1
      have ek := ek hk
      subst ek
      refine R_istore hC dX11_deal_16 (by decide) rfl (R_iload hC dX11_deal_18 rfl (R_iconst (v := (-1)) hC dX11_deal_20 (by decide) ?_))
      refine R_icmp_eq hC 31 dX11_deal_21 (by decide) (fun _ => ?_) (fun h => absurd rfl h)
      refine R_aload_n (i := 0) hC dX11_deal_31 rfl rfl ?_
      refine R_V0g hC hR dX11_deal_32 MV_X11_remember ml_X11_167 L_M rfl (s_remember h2 ok) (by decide) ⟨by decide, by decide⟩ (Nat.le_of_ble_eq_true rfl) (fun r w1 hq => ?_)
      obtain ⟨rfl, p, g2, rfl, hm⟩ := hq
      refine R_aload_n (i := 0) hC dX11_deal_35 rfl rfl (R_aload_n (i := 0) hC dX11_deal_36 rfl rfl (R_gR hC dX11_deal_37 fl_X11_13 L_M rfl (R_iload_n (i := 1) hC dX11_deal_40 rfl rfl (R_iload_n (i := 2) hC dX11_deal_41 rfl rfl (R_iload_n (i := 3) hC dX11_deal_42 rfl rfl ?_)))))
      refine R_V4g hC hR dX11_deal_43 MV_X11_does ml_X11_185 L_M rfl (s_does L_m_now (by decide) (hm.2.1.TB ok.2.2.1) ok.2.2.1 hs) (by decide) ⟨by decide, by decide⟩ (Nat.le_of_ble_eq_true rfl) (fun r w1 hq => ?_)
      obtain ⟨rfl, g3, h3, rfl, hg3⟩ := hq
      refine R_aload_n (i := 0) hC dX11_deal_46 rfl rfl (R_gI hC dX11_deal_47 fl_X11_155 L_M rfl ?_)
      exact R_iret hC hT dX11_deal_50 rfl (by
      rw [e]
      have ev : (sA (sA (sA (sG (sA (sG σ i_M 0 0) i_m_trial g) i_M 15 p) i_m_undoRow g2) i_m_trial h3) i_m_now g3).1 i_M 15 = nI (pushP (tP α) (tT α)).1 := hm.2.2.2.2.1.1
      rw [ev]
      exact MPost.i ((hm.a (i := i_m_trial) (by decide)).now hg3.TR) ((((c2.g (Nat.le_refl _)).a (by decide)).a (by decide)).a (by decide)))
    · rw [if_neg (by rw [hs]; intro q; exact absurd (congrArg Int32.toInt q) (by rw [nI_toInt (by omega)]; show ¬ (j : Int) = -1; omega)), hs, nI_clamp (by omega)] at e
      rw [hs]
      refine R_istore hC dX11_deal_16 (by decide) rfl (R_iload hC dX11_deal_18 rfl (R_iconst (v := (-1)) hC dX11_deal_20 (by decide) ?_))
      refine R_icmp_eq hC 31 dX11_deal_21 (by decide) (fun h => absurd h (fun q => absurd (congrArg Int32.toInt q) (by rw [nI_toInt (by omega)]; show ¬ (j : Int) = -1; omega))) (fun _ => ?_)
      refine R_aload_n (i := 0) hC dX11_deal_24 rfl rfl (R_iload hC dX11_deal_25 rfl ?_)
      refine R_V1i hC hR dX11_deal_27 MV_X11_refused ml_X11_164 L_M rfl (s_refused _ _ j hj) (by decide) ⟨by decide, by decide⟩ (Nat.le_of_ble_eq_true rfl) ?_
      exact R_iret hC hT dX11_deal_30 rfl (by rw [e]; exact MPost.i (h2.stat hj) (c2.a (by decide)))
  refine R_aload_n (i := 0) hC dX11_deal_0 rfl rfl (R_iconst (v := 0) hC dX11_deal_1 (by decide) (R_pI hC dX11_deal_2 fl_X11_83 L_M rfl (R_aload_n (i := 0) hC dX11_deal_5 rfl rfl (R_aload_n (i := 0) hC dX11_deal_6 rfl rfl (R_gR hC dX11_deal_7 fl_X11_13 L_M rfl (R_iload_n (i := 1) hC dX11_deal_10 rfl rfl (R_iload_n (i := 2) hC dX11_deal_11 rfl rfl ?_)))))))
  refine R_iload_n (i := 3) hC dX11_deal_12 rfl rfl ?_
  refine R_V4g hC hR dX11_deal_13 MV_X11_stops ml_X11_181 L_M rfl (s_stops (sG σ i_M 0 0) x _ L_m_now (by decide) (tT α) hTB kd a b) (by decide) ⟨by decide, by decide⟩ (Nat.le_of_ble_eq_true rfl) (fun r w1 hq => ?_)
  obtain ⟨g, rfl, ⟨k, hk, rfl, rfl⟩ | ⟨hk, rfl⟩⟩ := hq
  · exact fin k g (fun _ => rfl) (by unfold opDeal; rw [if_pos (by rw [nI_toInt (by omega)]; omega), nI_clamp (by omega)])
  · exact fin 8 g (fun q => absurd q (by decide)) (by unfold opDeal; rw [if_neg hk])
  skip
end
section
theorem tbOK_doA {T : tb} (ok : tbOK T) {k : Nat} {a b : Int32} (h : stopZ T k a b = -1) : tbOK (doA k a.toNatClampNeg b.toNatClampNeg T) := by
  obtain ⟨h0, hk, o1, o2, o3, o4, o5, o6, o7⟩ := stopZ_ok h
  obtain ⟨b1, b2, b3, b4⟩ := ok
  match k, hk with
  | 0, _ =>
    refine ⟨b1, b2, b3, fun i j hi hj => ?_⟩
    show sml (if i = a.toNatClampNeg then -(T.2.2 i j) else T.2.2 i j)
    split
    · exact sml_neg (b4 i j hi hj)
    · exact b4 i j hi hj
  | 1, _ =>
    refine ⟨b1, b2, b3, fun i j hi hj => ?_⟩
    show sml (if j = a.toNatClampNeg then -(T.2.2 i j) else T.2.2 i j)
    split
    · exact sml_neg (b4 i j hi hj)
    · exact b4 i j hi hj
  | 2, _ =>
    obtain ⟨u1, u2, u3⟩ := o3 rfl
    obtain ⟨p, rfl, hp, hp2⟩ := inR_i u1
    obtain ⟨q, rfl, hq, hq2⟩ := inR_i u2
    rw [nI_clamp hp2, nI_clamp hq2]
    refine ⟨b1, b2, b3, fun i j hi hj => ?_⟩
    show sml (if i = p then T.2.2 q j else if i = q then T.2.2 p j else T.2.2 i j)
    split
    · exact b4 q j hq hj
    · split
      · exact b4 p j hp hj
      · exact b4 i j hi hj
  | 3, _ =>
    obtain ⟨u1, u2, u3⟩ := o4 rfl
    obtain ⟨p, rfl, hp, hp2⟩ := inR_i u1
    obtain ⟨q, rfl, hq, hq2⟩ := inR_i u2
    rw [nI_clamp hp2, nI_clamp hq2]
    refine ⟨b1, b2, b3, fun i j hi hj => ?_⟩
    show sml (if j = p then T.2.2 i q else if j = q then T.2.2 i p else T.2.2 i j)
    split
    · exact b4 i q hi hq
    · split
      · exact b4 i p hi hp
      · exact b4 i j hi hj
  | 4, _ => exact ⟨b1, b2, b3, (o5 rfl).2.2.2⟩
  | 5, _ => exact ⟨b2, b1, b3.symm, fun i j hi hj => b4 j i hj hi⟩
  | 6, _ =>
    have h1 := o6 rfl
    refine ⟨?_, b2, ?_, fun i j hi hj => ?_⟩
    · show T.1 - 1 ≤ 6; omega
    · show T.1 - 1 = 0 ↔ T.2.1 = 0; omega
    · have hi : i < T.1 - 1 := hi
      show sml (if i < a.toNatClampNeg then T.2.2 i j else T.2.2 (i + 1) j)
      split
      · exact b4 i j (by omega) hj
      · exact b4 (i + 1) j (by omega) hj
  | 7, _ =>
    have h1 := o7 rfl
    refine ⟨b1, ?_, ?_, fun i j hi hj => ?_⟩
    · show T.2.1 - 1 ≤ 6; omega
    · show T.1 = 0 ↔ T.2.1 - 1 = 0; omega
    · have hj : j < T.2.1 - 1 := hj
      show sml (if j < a.toNatClampNeg then T.2.2 i j else T.2.2 i (j + 1))
      split
      · exact b4 i j hi (by omega)
      · exact b4 i (j + 1) hi (by omega)
/-- a step can be; what it makes of a table -/
def stepCan (T : tb) (s : Nat → Int32) : Prop := (∃ k : Nat, k < 6 ∧ s 0 = nI k ∧ stopZ T k (s 1) (s 2) = -1) ∨ (s 0 = nI 6 ∧ inR T.1 (s 1) ∧ inR T.2.1 (s 2) ∧ ¬ T.2.2 (s 1).toNatClampNeg (s 2).toNatClampNeg = s 3)
def tset (T : tb) (a b : Nat) (v : Int32) : tb := (T.1, T.2.1, fun i j => if i = a ∧ j = b then v else T.2.2 i j)
def stepA (T : tb) (s : Nat → Int32) : tb := if s 0 = nI 6 then tset T (s 1).toNatClampNeg (s 2).toNatClampNeg (s 3) else doA (s 0).toNatClampNeg (s 1).toNatClampNeg (s 2).toNatClampNeg T
theorem tbOK_tset {T : tb} (ok : tbOK T) (a b : Nat) {v : Int32} (hv : sml v) : tbOK (tset T a b v) := by
  obtain ⟨b1, b2, b3, b4⟩ := ok
  refine ⟨b1, b2, b3, fun i j hi hj => ?_⟩
  show sml (if i = a ∧ j = b then v else T.2.2 i j)
  split
  · exact hv
  · exact b4 i j hi hj
theorem nI_ne {a b : Nat} (ha : a < 2 ^ 31) (hb : b < 2 ^ 31) (h : a ≠ b) : ¬ nI a = nI b := fun q => h ((nI_eq ha hb).mp q)
theorem tbOK_step {T : tb} (ok : tbOK T) {s : Nat → Int32} (hs : stepOK s) (h : stepCan T s) : tbOK (stepA T s) := by
  unfold stepA
  rcases h with ⟨k, hk, e, h⟩ | ⟨e, -⟩
  · rw [if_neg (by rw [e]; exact nI_ne (by omega) (by omega) (by omega)), e, nI_clamp (by omega)]
    exact tbOK_doA ok h
  · rw [if_pos e]
    obtain ⟨k, hk, e2, -, -, h6⟩ := hs
    have : k = 6 := (nI_eq (by omega) (by decide)).mp (e2.symm.trans e)
    exact tbOK_tset ok _ _ (h6 this)
theorem dX11_canStep_0 : decode cX11_canStep 0 = .ok (.aload_n 0, 1) := by decide +kernel
theorem dX11_canStep_1 : decode cX11_canStep 1 = .ok (.getfield 26, 3) := by decide +kernel
theorem dX11_canStep_4 : decode cX11_canStep 4 = .ok (.iload_n 2, 1) := by decide +kernel
theorem dX11_canStep_5 : decode cX11_canStep 5 = .ok (.iaload, 1) := by decide +kernel
theorem dX11_canStep_6 : decode cX11_canStep 6 = .ok (.bipush 6, 2) := by decide +kernel
theorem dX11_canStep_8 : decode cX11_canStep 8 = .ok (.if_icmp .ge 40, 3) := by decide +kernel
theorem dX11_canStep_11 : decode cX11_canStep 11 = .ok (.aload_n 0, 1) := by decide +kernel
theorem dX11_canStep_12 : decode cX11_canStep 12 = .ok (.aload_n 1, 1) := by decide +kernel
theorem dX11_canStep_13 : decode cX11_canStep 13 = .ok (.aload_n 0, 1) := by decide +kernel
theorem dX11_canStep_14 : decode cX11_canStep 14 = .ok (.getfield 26, 3) := by decide +kernel
theorem dX11_canStep_17 : decode cX11_canStep 17 = .ok (.iload_n 2, 1) := by decide +kernel
theorem dX11_canStep_18 : decode cX11_canStep 18 = .ok (.iaload, 1) := by decide +kernel
theorem dX11_canStep_19 : decode cX11_canStep 19 = .ok (.aload_n 0, 1) := by decide +kernel
theorem dX11_canStep_20 : decode cX11_canStep 20 = .ok (.getfield 26, 3) := by decide +kernel
theorem dX11_canStep_23 : decode cX11_canStep 23 = .ok (.iload_n 2, 1) := by decide +kernel
theorem dX11_canStep_24 : decode cX11_canStep 24 = .ok (.iconst 1, 1) := by decide +kernel
theorem dX11_canStep_25 : decode cX11_canStep 25 = .ok (.iadd, 1) := by decide +kernel
theorem dX11_canStep_26 : decode cX11_canStep 26 = .ok (.iaload, 1) := by decide +kernel
theorem dX11_canStep_27 : decode cX11_canStep 27 = .ok (.aload_n 0, 1) := by decide +kernel
theorem dX11_canStep_28 : decode cX11_canStep 28 = .ok (.getfield 26, 3) := by decide +kernel
theorem dX11_canStep_31 : decode cX11_canStep 31 = .ok (.iload_n 2, 1) := by decide +kernel
theorem dX11_canStep_32 : decode cX11_canStep 32 = .ok (.iconst 2, 1) := by decide +kernel
theorem dX11_canStep_33 : decode cX11_canStep 33 = .ok (.iadd, 1) := by decide +kernel
theorem dX11_canStep_34 : decode cX11_canStep 34 = .ok (.iaload, 1) := by decide +kernel
theorem dX11_canStep_35 : decode cX11_canStep 35 = .ok (.invokevirtual 181, 3) := by decide +kernel
theorem dX11_canStep_38 : decode cX11_canStep 38 = .ok (.iconst (-1), 1) := by decide +kernel
theorem dX11_canStep_39 : decode cX11_canStep 39 = .ok (.if_icmp .ne 7, 3) := by decide +kernel
theorem dX11_canStep_42 : decode cX11_canStep 42 = .ok (.iconst 1, 1) := by decide +kernel
theorem dX11_canStep_43 : decode cX11_canStep 43 = .ok (.goto 4, 3) := by decide +kernel
theorem dX11_canStep_46 : decode cX11_canStep 46 = .ok (.iconst 0, 1) := by decide +kernel
theorem dX11_canStep_47 : decode cX11_canStep 47 = .ok (.ireturn, 1) := by decide +kernel
theorem dX11_canStep_48 : decode cX11_canStep 48 = .ok (.aload_n 0, 1) := by decide +kernel
theorem dX11_canStep_49 : decode cX11_canStep 49 = .ok (.aload_n 1, 1) := by decide +kernel
theorem dX11_canStep_50 : decode cX11_canStep 50 = .ok (.aload_n 0, 1) := by decide +kernel
theorem dX11_canStep_51 : decode cX11_canStep 51 = .ok (.getfield 26, 3) := by decide +kernel
theorem dX11_canStep_54 : decode cX11_canStep 54 = .ok (.iload_n 2, 1) := by decide +kernel
theorem dX11_canStep_55 : decode cX11_canStep 55 = .ok (.iconst 1, 1) := by decide +kernel
theorem dX11_canStep_56 : decode cX11_canStep 56 = .ok (.iadd, 1) := by decide +kernel
theorem dX11_canStep_57 : decode cX11_canStep 57 = .ok (.iaload, 1) := by decide +kernel
theorem dX11_canStep_58 : decode cX11_canStep 58 = .ok (.aload_n 0, 1) := by decide +kernel
theorem dX11_canStep_59 : decode cX11_canStep 59 = .ok (.getfield 26, 3) := by decide +kernel
theorem dX11_canStep_62 : decode cX11_canStep 62 = .ok (.iload_n 2, 1) := by decide +kernel
theorem dX11_canStep_63 : decode cX11_canStep 63 = .ok (.iconst 2, 1) := by decide +kernel
theorem dX11_canStep_64 : decode cX11_canStep 64 = .ok (.iadd, 1) := by decide +kernel
theorem dX11_canStep_65 : decode cX11_canStep 65 = .ok (.iaload, 1) := by decide +kernel
theorem dX11_canStep_66 : decode cX11_canStep 66 = .ok (.invokevirtual 158, 3) := by decide +kernel
theorem dX11_canStep_69 : decode cX11_canStep 69 = .ok (.ifCond .eq 40, 3) := by decide +kernel
theorem dX11_canStep_72 : decode cX11_canStep 72 = .ok (.aload_n 1, 1) := by decide +kernel
theorem dX11_canStep_73 : decode cX11_canStep 73 = .ok (.bipush 6, 2) := by decide +kernel
theorem dX11_canStep_75 : decode cX11_canStep 75 = .ok (.aload_n 0, 1) := by decide +kernel
theorem dX11_canStep_76 : decode cX11_canStep 76 = .ok (.getfield 26, 3) := by decide +kernel
theorem dX11_canStep_79 : decode cX11_canStep 79 = .ok (.iload_n 2, 1) := by decide +kernel
theorem dX11_canStep_80 : decode cX11_canStep 80 = .ok (.iconst 1, 1) := by decide +kernel
theorem dX11_canStep_81 : decode cX11_canStep 81 = .ok (.iadd, 1) := by decide +kernel
theorem dX11_canStep_82 : decode cX11_canStep 82 = .ok (.iaload, 1) := by decide +kernel
theorem dX11_canStep_83 : decode cX11_canStep 83 = .ok (.imul, 1) := by decide +kernel
theorem dX11_canStep_84 : decode cX11_canStep 84 = .ok (.aload_n 0, 1) := by decide +kernel
theorem dX11_canStep_85 : decode cX11_canStep 85 = .ok (.getfield 26, 3) := by decide +kernel
theorem dX11_canStep_88 : decode cX11_canStep 88 = .ok (.iload_n 2, 1) := by decide +kernel
theorem dX11_canStep_89 : decode cX11_canStep 89 = .ok (.iconst 2, 1) := by decide +kernel
theorem dX11_canStep_90 : decode cX11_canStep 90 = .ok (.iadd, 1) := by decide +kernel
theorem dX11_canStep_91 : decode cX11_canStep 91 = .ok (.iaload, 1) := by decide +kernel
theorem dX11_canStep_92 : decode cX11_canStep 92 = .ok (.iadd, 1) := by decide +kernel
theorem dX11_canStep_93 : decode cX11_canStep 93 = .ok (.iaload, 1) := by decide +kernel
theorem dX11_canStep_94 : decode cX11_canStep 94 = .ok (.aload_n 0, 1) := by decide +kernel
theorem dX11_canStep_95 : decode cX11_canStep 95 = .ok (.getfield 26, 3) := by decide +kernel
theorem dX11_canStep_98 : decode cX11_canStep 98 = .ok (.iload_n 2, 1) := by decide +kernel
theorem dX11_canStep_99 : decode cX11_canStep 99 = .ok (.iconst 3, 1) := by decide +kernel
theorem dX11_canStep_100 : decode cX11_canStep 100 = .ok (.iadd, 1) := by decide +kernel
theorem dX11_canStep_101 : decode cX11_canStep 101 = .ok (.iaload, 1) := by decide +kernel
theorem dX11_canStep_102 : decode cX11_canStep 102 = .ok (.if_icmp .eq 7, 3) := by decide +kernel
theorem dX11_canStep_105 : decode cX11_canStep 105 = .ok (.iconst 1, 1) := by decide +kernel
theorem dX11_canStep_106 : decode cX11_canStep 106 = .ok (.goto 4, 3) := by decide +kernel
theorem dX11_canStep_109 : decode cX11_canStep 109 = .ok (.iconst 0, 1) := by decide +kernel
theorem dX11_canStep_110 : decode cX11_canStep 110 = .ok (.ireturn, 1) := by decide +kernel
theorem dX11_doesStep_0 : decode cX11_doesStep 0 = .ok (.aload_n 0, 1) := by decide +kernel
theorem dX11_doesStep_1 : decode cX11_doesStep 1 = .ok (.getfield 26, 3) := by decide +kernel
theorem dX11_doesStep_4 : decode cX11_doesStep 4 = .ok (.iload_n 2, 1) := by decide +kernel
theorem dX11_doesStep_5 : decode cX11_doesStep 5 = .ok (.iaload, 1) := by decide +kernel
theorem dX11_doesStep_6 : decode cX11_doesStep 6 = .ok (.bipush 6, 2) := by decide +kernel
theorem dX11_doesStep_8 : decode cX11_doesStep 8 = .ok (.if_icmp .ge 33, 3) := by decide +kernel
theorem dX11_doesStep_11 : decode cX11_doesStep 11 = .ok (.aload_n 0, 1) := by decide +kernel
theorem dX11_doesStep_12 : decode cX11_doesStep 12 = .ok (.aload_n 1, 1) := by decide +kernel
theorem dX11_doesStep_13 : decode cX11_doesStep 13 = .ok (.aload_n 0, 1) := by decide +kernel
theorem dX11_doesStep_14 : decode cX11_doesStep 14 = .ok (.getfield 26, 3) := by decide +kernel
theorem dX11_doesStep_17 : decode cX11_doesStep 17 = .ok (.iload_n 2, 1) := by decide +kernel
theorem dX11_doesStep_18 : decode cX11_doesStep 18 = .ok (.iaload, 1) := by decide +kernel
theorem dX11_doesStep_19 : decode cX11_doesStep 19 = .ok (.aload_n 0, 1) := by decide +kernel
theorem dX11_doesStep_20 : decode cX11_doesStep 20 = .ok (.getfield 26, 3) := by decide +kernel
theorem dX11_doesStep_23 : decode cX11_doesStep 23 = .ok (.iload_n 2, 1) := by decide +kernel
theorem dX11_doesStep_24 : decode cX11_doesStep 24 = .ok (.iconst 1, 1) := by decide +kernel
theorem dX11_doesStep_25 : decode cX11_doesStep 25 = .ok (.iadd, 1) := by decide +kernel
theorem dX11_doesStep_26 : decode cX11_doesStep 26 = .ok (.iaload, 1) := by decide +kernel
theorem dX11_doesStep_27 : decode cX11_doesStep 27 = .ok (.aload_n 0, 1) := by decide +kernel
theorem dX11_doesStep_28 : decode cX11_doesStep 28 = .ok (.getfield 26, 3) := by decide +kernel
theorem dX11_doesStep_31 : decode cX11_doesStep 31 = .ok (.iload_n 2, 1) := by decide +kernel
theorem dX11_doesStep_32 : decode cX11_doesStep 32 = .ok (.iconst 2, 1) := by decide +kernel
theorem dX11_doesStep_33 : decode cX11_doesStep 33 = .ok (.iadd, 1) := by decide +kernel
theorem dX11_doesStep_34 : decode cX11_doesStep 34 = .ok (.iaload, 1) := by decide +kernel
theorem dX11_doesStep_35 : decode cX11_doesStep 35 = .ok (.invokevirtual 185, 3) := by decide +kernel
theorem dX11_doesStep_38 : decode cX11_doesStep 38 = .ok (.goto 33, 3) := by decide +kernel
theorem dX11_doesStep_41 : decode cX11_doesStep 41 = .ok (.aload_n 1, 1) := by decide +kernel
theorem dX11_doesStep_42 : decode cX11_doesStep 42 = .ok (.bipush 6, 2) := by decide +kernel
theorem dX11_doesStep_44 : decode cX11_doesStep 44 = .ok (.aload_n 0, 1) := by decide +kernel
theorem dX11_doesStep_45 : decode cX11_doesStep 45 = .ok (.getfield 26, 3) := by decide +kernel
theorem dX11_doesStep_48 : decode cX11_doesStep 48 = .ok (.iload_n 2, 1) := by decide +kernel
theorem dX11_doesStep_49 : decode cX11_doesStep 49 = .ok (.iconst 1, 1) := by decide +kernel
theorem dX11_doesStep_50 : decode cX11_doesStep 50 = .ok (.iadd, 1) := by decide +kernel
theorem dX11_doesStep_51 : decode cX11_doesStep 51 = .ok (.iaload, 1) := by decide +kernel
theorem dX11_doesStep_52 : decode cX11_doesStep 52 = .ok (.imul, 1) := by decide +kernel
theorem dX11_doesStep_53 : decode cX11_doesStep 53 = .ok (.aload_n 0, 1) := by decide +kernel
theorem dX11_doesStep_54 : decode cX11_doesStep 54 = .ok (.getfield 26, 3) := by decide +kernel
theorem dX11_doesStep_57 : decode cX11_doesStep 57 = .ok (.iload_n 2, 1) := by decide +kernel
theorem dX11_doesStep_58 : decode cX11_doesStep 58 = .ok (.iconst 2, 1) := by decide +kernel
theorem dX11_doesStep_59 : decode cX11_doesStep 59 = .ok (.iadd, 1) := by decide +kernel
theorem dX11_doesStep_60 : decode cX11_doesStep 60 = .ok (.iaload, 1) := by decide +kernel
theorem dX11_doesStep_61 : decode cX11_doesStep 61 = .ok (.iadd, 1) := by decide +kernel
theorem dX11_doesStep_62 : decode cX11_doesStep 62 = .ok (.aload_n 0, 1) := by decide +kernel
theorem dX11_doesStep_63 : decode cX11_doesStep 63 = .ok (.getfield 26, 3) := by decide +kernel
theorem dX11_doesStep_66 : decode cX11_doesStep 66 = .ok (.iload_n 2, 1) := by decide +kernel
theorem dX11_doesStep_67 : decode cX11_doesStep 67 = .ok (.iconst 3, 1) := by decide +kernel
theorem dX11_doesStep_68 : decode cX11_doesStep 68 = .ok (.iadd, 1) := by decide +kernel
theorem dX11_doesStep_69 : decode cX11_doesStep 69 = .ok (.iaload, 1) := by decide +kernel
theorem dX11_doesStep_70 : decode cX11_doesStep 70 = .ok (.iastore, 1) := by decide +kernel
theorem dX11_doesStep_71 : decode cX11_doesStep 71 = .ok (.return_, 1) := by decide +kernel
theorem dX11_perform_0 : decode cX11_perform 0 = .ok (.aload_n 0, 1) := by decide +kernel
theorem dX11_perform_1 : decode cX11_perform 1 = .ok (.iconst 0, 1) := by decide +kernel
theorem dX11_perform_2 : decode cX11_perform 2 = .ok (.putfield 83, 3) := by decide +kernel
theorem dX11_perform_5 : decode cX11_perform 5 = .ok (.aload_n 0, 1) := by decide +kernel
theorem dX11_perform_6 : decode cX11_perform 6 = .ok (.getfield 13, 3) := by decide +kernel
theorem dX11_perform_9 : decode cX11_perform 9 = .ok (.bipush 36, 2) := by decide +kernel
theorem dX11_perform_11 : decode cX11_perform 11 = .ok (.iaload, 1) := by decide +kernel
theorem dX11_perform_12 : decode cX11_perform 12 = .ok (.ifCond .eq 11, 3) := by decide +kernel
theorem dX11_perform_15 : decode cX11_perform 15 = .ok (.aload_n 0, 1) := by decide +kernel
theorem dX11_perform_16 : decode cX11_perform 16 = .ok (.iload_n 1, 1) := by decide +kernel
theorem dX11_perform_17 : decode cX11_perform 17 = .ok (.invokevirtual 325, 3) := by decide +kernel
theorem dX11_perform_20 : decode cX11_perform 20 = .ok (.ifCond .ne 5, 3) := by decide +kernel
theorem dX11_perform_23 : decode cX11_perform 23 = .ok (.iconst (-1), 1) := by decide +kernel
theorem dX11_perform_24 : decode cX11_perform 24 = .ok (.ireturn, 1) := by decide +kernel
theorem dX11_perform_25 : decode cX11_perform 25 = .ok (.iconst 0, 1) := by decide +kernel
theorem dX11_perform_26 : decode cX11_perform 26 = .ok (.istore_n 2, 1) := by decide +kernel
theorem dX11_perform_27 : decode cX11_perform 27 = .ok (.iload_n 2, 1) := by decide +kernel
theorem dX11_perform_28 : decode cX11_perform 28 = .ok (.aload_n 0, 1) := by decide +kernel
theorem dX11_perform_29 : decode cX11_perform 29 = .ok (.getfield 29, 3) := by decide +kernel
theorem dX11_perform_32 : decode cX11_perform 32 = .ok (.iload_n 1, 1) := by decide +kernel
theorem dX11_perform_33 : decode cX11_perform 33 = .ok (.iaload, 1) := by decide +kernel
theorem dX11_perform_34 : decode cX11_perform 34 = .ok (.if_icmp .ge 48, 3) := by decide +kernel
theorem dX11_perform_37 : decode cX11_perform 37 = .ok (.aload_n 0, 1) := by decide +kernel
theorem dX11_perform_38 : decode cX11_perform 38 = .ok (.aload_n 0, 1) := by decide +kernel
theorem dX11_perform_39 : decode cX11_perform 39 = .ok (.getfield 13, 3) := by decide +kernel
theorem dX11_perform_42 : decode cX11_perform 42 = .ok (.iconst 4, 1) := by decide +kernel
theorem dX11_perform_43 : decode cX11_perform 43 = .ok (.bipush 12, 2) := by decide +kernel
theorem dX11_perform_45 : decode cX11_perform 45 = .ok (.iload_n 1, 1) := by decide +kernel
theorem dX11_perform_46 : decode cX11_perform 46 = .ok (.imul, 1) := by decide +kernel
theorem dX11_perform_47 : decode cX11_perform 47 = .ok (.iload_n 2, 1) := by decide +kernel
theorem dX11_perform_48 : decode cX11_perform 48 = .ok (.iadd, 1) := by decide +kernel
theorem dX11_perform_49 : decode cX11_perform 49 = .ok (.imul, 1) := by decide +kernel
theorem dX11_perform_50 : decode cX11_perform 50 = .ok (.invokevirtual 328, 3) := by decide +kernel
theorem dX11_perform_53 : decode cX11_perform 53 = .ok (.ifCond .eq 29, 3) := by decide +kernel
theorem dX11_perform_56 : decode cX11_perform 56 = .ok (.aload_n 0, 1) := by decide +kernel
theorem dX11_perform_57 : decode cX11_perform 57 = .ok (.invokevirtual 167, 3) := by decide +kernel
theorem dX11_perform_60 : decode cX11_perform 60 = .ok (.aload_n 0, 1) := by decide +kernel
theorem dX11_perform_61 : decode cX11_perform 61 = .ok (.aload_n 0, 1) := by decide +kernel
theorem dX11_perform_62 : decode cX11_perform 62 = .ok (.getfield 13, 3) := by decide +kernel
theorem dX11_perform_65 : decode cX11_perform 65 = .ok (.iconst 4, 1) := by decide +kernel
theorem dX11_perform_66 : decode cX11_perform 66 = .ok (.bipush 12, 2) := by decide +kernel
theorem dX11_perform_68 : decode cX11_perform 68 = .ok (.iload_n 1, 1) := by decide +kernel
theorem dX11_perform_69 : decode cX11_perform 69 = .ok (.imul, 1) := by decide +kernel
theorem dX11_perform_70 : decode cX11_perform 70 = .ok (.iload_n 2, 1) := by decide +kernel
theorem dX11_perform_71 : decode cX11_perform 71 = .ok (.iadd, 1) := by decide +kernel
theorem dX11_perform_72 : decode cX11_perform 72 = .ok (.imul, 1) := by decide +kernel
theorem dX11_perform_73 : decode cX11_perform 73 = .ok (.invokevirtual 332, 3) := by decide +kernel
theorem dX11_perform_76 : decode cX11_perform 76 = .ok (.iinc 2 1, 3) := by decide +kernel
theorem dX11_perform_79 : decode cX11_perform 79 = .ok (.goto (-52), 3) := by decide +kernel
theorem dX11_perform_82 : decode cX11_perform 82 = .ok (.iload_n 2, 1) := by decide +kernel
theorem dX11_perform_83 : decode cX11_perform 83 = .ok (.ireturn, 1) := by decide +kernel
theorem n412 (k i : Nat) : (4 : Int32) * ((12 : Int32) * nI k + nI i) = nI (4 * (12 * k + i)) := by
  rw [show (12 : Int32) = nI 12 from rfl, show (4 : Int32) = nI 4 from rfl, pk_mul, nI_add, pk_mul]
theorem s_canStep {σ : sg} {x : aW} {t : Nat} (ht : LY t (0, 38, [])) (hne : t ≠ i_m_trial) {T : tb} (hT0 : TB (σ.2.2 t) T) (q : Nat) (hq : q + 3 < 240) {s : Nat → Int32} (hs : stepOK s) (hsr : ∀ j, j < 4 → σ.2.2 i_m_plan (q + j) = s j) :
    Mt mX11_canStep 3 0 0 [.ref i_M, .ref t, .int (nI q)] (wd σ x) (fun r w => ∃ g : Nat → Int32, w = wd (sA σ i_m_trial g) x ∧ ((stepCan T s ∧ r = some (.int 1)) ∨ (¬ stepCan T s ∧ r = some (.int 0)))) := by
  refine Mt.of MI_X11_canStep (Nat.le_of_ble_eq_true rfl) (fun X hC hR hT => ?_)
  obtain ⟨k, hk, e0, d1, d2, d3⟩ := id hs
  have r0 : σ.2.2 i_m_plan q = nI k := by rw [← e0]; exact hsr 0 (by decide)
  have r1 := hsr 1 (by decide)
  have r2 := hsr 2 (by decide)
  have r3 := hsr 3 (by decide)
  have hself : wd σ x = wd (sA σ i_m_trial (σ.2.2 i_m_trial)) x := by rw [sA_self]
  obtain ⟨hR1, hC1, hR6, hC6, hE⟩ := id hT0
  by_cases k6 : k = 6
  · subst k6
    obtain ⟨i, hi, ei⟩ := d1.resolve_left (by decide)
    obtain ⟨j, hj, ej⟩ := (d2.resolve_left (by decide)).resolve_left (by decide)
    have c2 : (nI i).toNatClampNeg = i := nI_clamp (by omega)
    have c3 : (nI j).toNatClampNeg = j := nI_clamp (by omega)
    have ncan : ¬ (inR T.1 (nI i) ∧ inR T.2.1 (nI j) ∧ ¬ T.2.2 i j = s 3) → ¬ stepCan T s := by
      rintro hn (⟨k, hk, e, -⟩ | ⟨-, h1, h2, h3⟩)
      · exact absurd ((nI_eq (a := 6) (b := k) (by decide) (by omega)).mp (e0.symm.trans e)) (by omega)
      · rw [ei] at h1; rw [ej] at h2; rw [ei, ej, c2, c3] at h3; exact hn ⟨h1, h2, h3⟩
    refine R_aload_n (i := 0) hC dX11_canStep_0 rfl rfl (R_gR hC dX11_canStep_1 fl_X11_26 L_M rfl (R_iload_n (i := 2) hC dX11_canStep_4 rfl rfl (R_aI hC dX11_canStep_5 L_m_plan q rfl (by omega) (by decide) ?_)))
    refine R_top (y := nI 6) r0 ?_
    refine R_bipush (v := 6) hC dX11_canStep_6 (by decide) ?_
    refine R_icmp_ge hC 48 dX11_canStep_8 (by decide) (fun _ => ?_) (fun h => absurd (by decide) h)
    refine R_aload_n (i := 0) hC dX11_canStep_48 rfl rfl (R_aload_n (i := 1) hC dX11_canStep_49 rfl rfl (R_aload_n (i := 0) hC dX11_canStep_50 rfl rfl (R_gR hC dX11_canStep_51 fl_X11_26 L_M rfl (R_iload_n (i := 2) hC dX11_canStep_54 rfl rfl (R_iconst (v := 1) hC dX11_canStep_55 (by decide) (R_iadd hC dX11_canStep_56 (R_aI hC dX11_canStep_57 L_m_plan (q + 1) (nI_1 q) (by omega) (by decide) ?_)))))))
    refine R_top (y := nI i) (r1.trans ei) ?_
    refine R_aload_n (i := 0) hC dX11_canStep_58 rfl rfl (R_gR hC dX11_canStep_59 fl_X11_26 L_M rfl (R_iload_n (i := 2) hC dX11_canStep_62 rfl rfl (R_iconst (v := 2) hC dX11_canStep_63 (by decide) (R_iadd hC dX11_canStep_64 (R_aI hC dX11_canStep_65 L_m_plan (q + 2) (by rw [show (2 : Int32) = nI 2 from rfl, nI_add]) (by omega) (by decide) ?_)))))
    refine R_top (y := nI j) (r2.trans ej) ?_
    refine R_V3i hC hR dX11_canStep_66 MV_X11_isCell ml_X11_158 L_M rfl (s_isCell _ _ _ ht _ _) (by decide) ⟨by decide, by decide⟩ (Nat.le_of_ble_eq_true rfl) ?_
    refine R_if_eq hC 109 dX11_canStep_69 (by decide) (fun h69 => ?_) (fun h69 => ?_)
    · refine R_iconst (v := 0) hC dX11_canStep_109 (by decide) ?_
      exact R_zret hC hT dX11_canStep_110 rfl (by decide) (by
      refine ⟨_, hself, ?_⟩
      first
      | exact Or.inl ⟨Or.inr ⟨e0, by rw [ei]; exact hin1, by rw [ej]; exact hin2, by rw [ei, ej, c2, c3]; exact h102⟩, rfl⟩
      | exact Or.inr ⟨ncan (fun z => z.2.2 h102), rfl⟩
      | exact Or.inr ⟨ncan (fun z => b2i_0 h69 (hT0.inT_iff.mpr ⟨z.1, z.2.1⟩)), rfl⟩)
    · obtain ⟨hin1, hin2⟩ := hT0.inT_iff.mp (b2i_ne h69)
      obtain ⟨i', ei', hi', -⟩ := inR_i hin1
      obtain ⟨j', ej', hj', -⟩ := inR_i hin2
      have hii : i = i' := (nI_eq (by omega) (by omega)).mp ei'
      have hjj : j = j' := (nI_eq (by omega) (by omega)).mp ej'
      subst hii; subst hjj
      refine R_aload_n (i := 1) hC dX11_canStep_72 rfl rfl (R_bipush (v := 6) hC dX11_canStep_73 (by decide) (R_aload_n (i := 0) hC dX11_canStep_75 rfl rfl (R_gR hC dX11_canStep_76 fl_X11_26 L_M rfl (R_iload_n (i := 2) hC dX11_canStep_79 rfl rfl (R_iconst (v := 1) hC dX11_canStep_80 (by decide) (R_iadd hC dX11_canStep_81 (R_aI hC dX11_canStep_82 L_m_plan (q + 1) (nI_1 q) (by omega) (by decide) ?_)))))))
      refine R_top (y := nI i) (r1.trans ei) ?_
      refine R_imul hC dX11_canStep_83 (R_aload_n (i := 0) hC dX11_canStep_84 rfl rfl (R_gR hC dX11_canStep_85 fl_X11_26 L_M rfl (R_iload_n (i := 2) hC dX11_canStep_88 rfl rfl (R_iconst (v := 2) hC dX11_canStep_89 (by decide) (R_iadd hC dX11_canStep_90 (R_aI hC dX11_canStep_91 L_m_plan (q + 2) (by rw [show (2 : Int32) = nI 2 from rfl, nI_add]) (by omega) (by decide) ?_))))))
      refine R_top (y := nI j) (r2.trans ej) ?_
      refine R_iadd hC dX11_canStep_92 (R_aI hC dX11_canStep_93 ht (6 * i + j) (n6 i j) (by omega) (by decide) ?_)
      refine R_top (y := T.2.2 i j) (hE i j hi' hj').1 ?_
      refine R_aload_n (i := 0) hC dX11_canStep_94 rfl rfl (R_gR hC dX11_canStep_95 fl_X11_26 L_M rfl (R_iload_n (i := 2) hC dX11_canStep_98 rfl rfl (R_iconst (v := 3) hC dX11_canStep_99 (by decide) (R_iadd hC dX11_canStep_100 (R_aI hC dX11_canStep_101 L_m_plan (q + 3) (by rw [show (3 : Int32) = nI 3 from rfl, nI_add]) (by omega) (by decide) ?_)))))
      refine R_top (y := s 3) r3 ?_
      refine R_icmp_eq hC 109 dX11_canStep_102 (by decide) (fun h102 => ?_) (fun h102 => ?_)
      · refine R_iconst (v := 0) hC dX11_canStep_109 (by decide) ?_
        exact R_zret hC hT dX11_canStep_110 rfl (by decide) (by
        refine ⟨_, hself, ?_⟩
        first
        | exact Or.inl ⟨Or.inr ⟨e0, by rw [ei]; exact hin1, by rw [ej]; exact hin2, by rw [ei, ej, c2, c3]; exact h102⟩, rfl⟩
        | exact Or.inr ⟨ncan (fun z => z.2.2 h102), rfl⟩
        | exact Or.inr ⟨ncan (fun z => b2i_0 h69 (hT0.inT_iff.mpr ⟨z.1, z.2.1⟩)), rfl⟩)
      · refine R_iconst (v := 1) hC dX11_canStep_105 (by decide) (R_goto hC 110 dX11_canStep_106 (by decide) ?_)
        exact R_zret hC hT dX11_canStep_110 rfl (by decide) (by
        refine ⟨_, hself, ?_⟩
        first
        | exact Or.inl ⟨Or.inr ⟨e0, by rw [ei]; exact hin1, by rw [ej]; exact hin2, by rw [ei, ej, c2, c3]; exact h102⟩, rfl⟩
        | exact Or.inr ⟨ncan (fun z => z.2.2 h102), rfl⟩
        | exact Or.inr ⟨ncan (fun z => b2i_0 h69 (hT0.inT_iff.mpr ⟨z.1, z.2.1⟩)), rfl⟩)
  · have hk6 : k < 6 := by omega
    have can : stepCan T s ↔ stopZ T k (s 1) (s 2) = -1 := by
      constructor
      · rintro (⟨k', hk', e, h⟩ | ⟨e, -⟩)
        · have : k = k' := (nI_eq (by omega) (by omega)).mp (e0.symm.trans e)
          subst this; exact h
        · exact absurd ((nI_eq (by omega) (by decide)).mp (e0.symm.trans e)) k6
      · intro h; exact Or.inl ⟨k, hk6, e0, h⟩
    refine R_aload_n (i := 0) hC dX11_canStep_0 rfl rfl (R_gR hC dX11_canStep_1 fl_X11_26 L_M rfl (R_iload_n (i := 2) hC dX11_canStep_4 rfl rfl (R_aI hC dX11_canStep_5 L_m_plan q rfl (by omega) (by decide) ?_)))
    refine R_top (y := nI k) r0 ?_
    refine R_bipush (v := 6) hC dX11_canStep_6 (by decide) ?_
    refine R_icmp_ge hC 48 dX11_canStep_8 (by decide) (fun h => absurd h (nI_ge (b := 6) hk6 (by decide))) (fun _ => ?_)
    refine R_aload_n (i := 0) hC dX11_canStep_11 rfl rfl (R_aload_n (i := 1) hC dX11_canStep_12 rfl rfl (R_aload_n (i := 0) hC dX11_canStep_13 rfl rfl (R_gR hC dX11_canStep_14 fl_X11_26 L_M rfl (R_iload_n (i := 2) hC dX11_canStep_17 rfl rfl (R_aI hC dX11_canStep_18 L_m_plan q rfl (by omega) (by decide) ?_)))))
    refine R_top (y := nI k) r0 ?_
    refine R_aload_n (i := 0) hC dX11_canStep_19 rfl rfl (R_gR hC dX11_canStep_20 fl_X11_26 L_M rfl (R_iload_n (i := 2) hC dX11_canStep_23 rfl rfl (R_iconst (v := 1) hC dX11_canStep_24 (by decide) (R_iadd hC dX11_canStep_25 (R_aI hC dX11_canStep_26 L_m_plan (q + 1) (nI_1 q) (by omega) (by decide) ?_)))))
    refine R_top (y := s 1) r1 ?_
    refine R_aload_n (i := 0) hC dX11_canStep_27 rfl rfl (R_gR hC dX11_canStep_28 fl_X11_26 L_M rfl (R_iload_n (i := 2) hC dX11_canStep_31 rfl rfl (R_iconst (v := 2) hC dX11_canStep_32 (by decide) (R_iadd hC dX11_canStep_33 (R_aI hC dX11_canStep_34 L_m_plan (q + 2) (by rw [show (2 : Int32) = nI 2 from rfl, nI_add]) (by omega) (by decide) ?_)))))
    refine R_top (y := s 2) r2 ?_
    refine R_V4g hC hR dX11_canStep_35 MV_X11_stops ml_X11_181 L_M rfl (s_stops _ _ _ ht hne T hT0 (nI k) (s 1) (s 2)) (by decide) ⟨by decide, by decide⟩ (Nat.le_of_ble_eq_true rfl) (fun r w1 hq => ?_)
    obtain ⟨g, rfl, ⟨k', hk', ek, rfl⟩ | ⟨hk', -⟩⟩ := hq
    case inr => exact absurd (by rw [nI_toInt (by omega)]; omega) hk'
    have ek : k = k' := (nI_eq (by omega) (by omega)).mp ek
    subst ek
    refine R_iconst (v := (-1)) hC dX11_canStep_38 (by decide) ?_
    refine R_icmp_ne hC 46 dX11_canStep_39 (by decide) (fun h39 => ?_) (fun h39 => ?_)
    · refine R_iconst (v := 0) hC dX11_canStep_46 (by decide) ?_
      exact R_zret hC hT dX11_canStep_47 rfl (by decide) (by
      refine ⟨g, rfl, ?_⟩
      first
      | exact Or.inl ⟨can.mpr h39, rfl⟩
      | exact Or.inr ⟨fun z => h39 (can.mp z), rfl⟩)
    · refine R_iconst (v := 1) hC dX11_canStep_42 (by decide) (R_goto hC 47 dX11_canStep_43 (by decide) ?_)
      exact R_zret hC hT dX11_canStep_47 rfl (by decide) (by
      refine ⟨g, rfl, ?_⟩
      first
      | exact Or.inl ⟨can.mpr h39, rfl⟩
      | exact Or.inr ⟨fun z => h39 (can.mp z), rfl⟩)
end
section
theorem dX11_draw_0 : decode cX11_draw 0 = .ok (.aload_n 0, 1) := by decide +kernel
theorem dX11_draw_1 : decode cX11_draw 1 = .ok (.aload_n 0, 1) := by decide +kernel
theorem dX11_draw_2 : decode cX11_draw 2 = .ok (.getfield 336, 3) := by decide +kernel
theorem dX11_draw_5 : decode cX11_draw 5 = .ok (.ldc2_w 340, 3) := by decide +kernel
theorem dX11_draw_8 : decode cX11_draw 8 = .ok (.lmul, 1) := by decide +kernel
theorem dX11_draw_9 : decode cX11_draw 9 = .ok (.ldc2_w 342, 3) := by decide +kernel
theorem dX11_draw_12 : decode cX11_draw 12 = .ok (.ladd, 1) := by decide +kernel
theorem dX11_draw_13 : decode cX11_draw 13 = .ok (.putfield 336, 3) := by decide +kernel
theorem dX11_draw_16 : decode cX11_draw 16 = .ok (.aload_n 0, 1) := by decide +kernel
theorem dX11_draw_17 : decode cX11_draw 17 = .ok (.getfield 336, 3) := by decide +kernel
theorem dX11_draw_20 : decode cX11_draw 20 = .ok (.bipush 33, 2) := by decide +kernel
theorem dX11_draw_22 : decode cX11_draw 22 = .ok (.lushr, 1) := by decide +kernel
theorem dX11_draw_23 : decode cX11_draw 23 = .ok (.iload_n 1, 1) := by decide +kernel
theorem dX11_draw_24 : decode cX11_draw 24 = .ok (.i2l, 1) := by decide +kernel
theorem dX11_draw_25 : decode cX11_draw 25 = .ok (.lrem, 1) := by decide +kernel
theorem dX11_draw_26 : decode cX11_draw 26 = .ok (.l2i, 1) := by decide +kernel
theorem dX11_draw_27 : decode cX11_draw 27 = .ok (.ireturn, 1) := by decide +kernel
theorem dX11_draws_0 : decode cX11_draws 0 = .ok (.aload_n 0, 1) := by decide +kernel
theorem dX11_draws_1 : decode cX11_draws 1 = .ok (.iconst 0, 1) := by decide +kernel
theorem dX11_draws_2 : decode cX11_draws 2 = .ok (.putfield 83, 3) := by decide +kernel
theorem dX11_draws_5 : decode cX11_draws 5 = .ok (.aload_n 0, 1) := by decide +kernel
theorem dX11_draws_6 : decode cX11_draws 6 = .ok (.getfield 13, 3) := by decide +kernel
theorem dX11_draws_9 : decode cX11_draws 9 = .ok (.bipush 36, 2) := by decide +kernel
theorem dX11_draws_11 : decode cX11_draws 11 = .ok (.iaload, 1) := by decide +kernel
theorem dX11_draws_12 : decode cX11_draws 12 = .ok (.ifCond .eq 15, 3) := by decide +kernel
theorem dX11_draws_15 : decode cX11_draws 15 = .ok (.iload_n 1, 1) := by decide +kernel
theorem dX11_draws_16 : decode cX11_draws 16 = .ok (.i2l, 1) := by decide +kernel
theorem dX11_draws_17 : decode cX11_draws 17 = .ok (.lconst 1, 1) := by decide +kernel
theorem dX11_draws_18 : decode cX11_draws 18 = .ok (.ldc2_w 344, 3) := by decide +kernel
theorem dX11_draws_21 : decode cX11_draws 21 = .ok (.invokestatic 140, 3) := by decide +kernel
theorem dX11_draws_24 : decode cX11_draws 24 = .ok (.ifCond .ne 5, 3) := by decide +kernel
theorem dX11_draws_27 : decode cX11_draws 27 = .ok (.iconst (-1), 1) := by decide +kernel
theorem dX11_draws_28 : decode cX11_draws 28 = .ok (.ireturn, 1) := by decide +kernel
theorem dX11_draws_29 : decode cX11_draws 29 = .ok (.aload_n 0, 1) := by decide +kernel
theorem dX11_draws_30 : decode cX11_draws 30 = .ok (.lload_n 2, 1) := by decide +kernel
theorem dX11_draws_31 : decode cX11_draws 31 = .ok (.putfield 336, 3) := by decide +kernel
theorem dX11_draws_34 : decode cX11_draws 34 = .ok (.iconst 0, 1) := by decide +kernel
theorem dX11_draws_35 : decode cX11_draws 35 = .ok (.istore 4, 2) := by decide +kernel
theorem dX11_draws_37 : decode cX11_draws 37 = .ok (.iconst 0, 1) := by decide +kernel
theorem dX11_draws_38 : decode cX11_draws 38 = .ok (.istore 5, 2) := by decide +kernel
theorem dX11_draws_40 : decode cX11_draws 40 = .ok (.iload 5, 2) := by decide +kernel
theorem dX11_draws_42 : decode cX11_draws 42 = .ok (.iload_n 1, 1) := by decide +kernel
theorem dX11_draws_43 : decode cX11_draws 43 = .ok (.if_icmp .ge 193, 3) := by decide +kernel
theorem dX11_draws_46 : decode cX11_draws 46 = .ok (.aload_n 0, 1) := by decide +kernel
theorem dX11_draws_47 : decode cX11_draws 47 = .ok (.bipush 6, 2) := by decide +kernel
theorem dX11_draws_49 : decode cX11_draws 49 = .ok (.invokevirtual 346, 3) := by decide +kernel
theorem dX11_draws_52 : decode cX11_draws 52 = .ok (.istore 6, 2) := by decide +kernel
theorem dX11_draws_54 : decode cX11_draws 54 = .ok (.aload_n 0, 1) := by decide +kernel
theorem dX11_draws_55 : decode cX11_draws 55 = .ok (.aload_n 0, 1) := by decide +kernel
theorem dX11_draws_56 : decode cX11_draws 56 = .ok (.getfield 13, 3) := by decide +kernel
theorem dX11_draws_59 : decode cX11_draws 59 = .ok (.iload 6, 2) := by decide +kernel
theorem dX11_draws_61 : decode cX11_draws 61 = .ok (.iconst 1, 1) := by decide +kernel
theorem dX11_draws_62 : decode cX11_draws 62 = .ok (.if_icmp .eq 9, 3) := by decide +kernel
theorem dX11_draws_65 : decode cX11_draws 65 = .ok (.iload 6, 2) := by decide +kernel
theorem dX11_draws_67 : decode cX11_draws 67 = .ok (.iconst 3, 1) := by decide +kernel
theorem dX11_draws_68 : decode cX11_draws 68 = .ok (.if_icmp .ne 8, 3) := by decide +kernel
theorem dX11_draws_71 : decode cX11_draws 71 = .ok (.bipush 37, 2) := by decide +kernel
theorem dX11_draws_73 : decode cX11_draws 73 = .ok (.goto 5, 3) := by decide +kernel
theorem dX11_draws_76 : decode cX11_draws 76 = .ok (.bipush 36, 2) := by decide +kernel
theorem dX11_draws_78 : decode cX11_draws 78 = .ok (.iaload, 1) := by decide +kernel
theorem dX11_draws_79 : decode cX11_draws 79 = .ok (.invokevirtual 346, 3) := by decide +kernel
theorem dX11_draws_82 : decode cX11_draws 82 = .ok (.istore 7, 2) := by decide +kernel
theorem dX11_draws_84 : decode cX11_draws 84 = .ok (.iload 6, 2) := by decide +kernel
theorem dX11_draws_86 : decode cX11_draws 86 = .ok (.iconst 2, 1) := by decide +kernel
theorem dX11_draws_87 : decode cX11_draws 87 = .ok (.if_icmp .ge 7, 3) := by decide +kernel
theorem dX11_draws_90 : decode cX11_draws 90 = .ok (.iconst 0, 1) := by decide +kernel
theorem dX11_draws_91 : decode cX11_draws 91 = .ok (.goto 25, 3) := by decide +kernel
theorem dX11_draws_94 : decode cX11_draws 94 = .ok (.aload_n 0, 1) := by decide +kernel
theorem dX11_draws_95 : decode cX11_draws 95 = .ok (.aload_n 0, 1) := by decide +kernel
theorem dX11_draws_96 : decode cX11_draws 96 = .ok (.getfield 13, 3) := by decide +kernel
theorem dX11_draws_99 : decode cX11_draws 99 = .ok (.iload 6, 2) := by decide +kernel
theorem dX11_draws_101 : decode cX11_draws 101 = .ok (.iconst 2, 1) := by decide +kernel
theorem dX11_draws_102 : decode cX11_draws 102 = .ok (.if_icmp .ne 8, 3) := by decide +kernel
theorem dX11_draws_105 : decode cX11_draws 105 = .ok (.bipush 36, 2) := by decide +kernel
theorem dX11_draws_107 : decode cX11_draws 107 = .ok (.goto 5, 3) := by decide +kernel
theorem dX11_draws_110 : decode cX11_draws 110 = .ok (.bipush 37, 2) := by decide +kernel
theorem dX11_draws_112 : decode cX11_draws 112 = .ok (.iaload, 1) := by decide +kernel
theorem dX11_draws_113 : decode cX11_draws 113 = .ok (.invokevirtual 346, 3) := by decide +kernel
theorem dX11_draws_116 : decode cX11_draws 116 = .ok (.istore 8, 2) := by decide +kernel
theorem dX11_draws_118 : decode cX11_draws 118 = .ok (.iload 6, 2) := by decide +kernel
theorem dX11_draws_120 : decode cX11_draws 120 = .ok (.iconst 5, 1) := by decide +kernel
theorem dX11_draws_121 : decode cX11_draws 121 = .ok (.if_icmp .ne 13, 3) := by decide +kernel
theorem dX11_draws_124 : decode cX11_draws 124 = .ok (.aload_n 0, 1) := by decide +kernel
theorem dX11_draws_125 : decode cX11_draws 125 = .ok (.iconst 3, 1) := by decide +kernel
theorem dX11_draws_126 : decode cX11_draws 126 = .ok (.invokevirtual 346, 3) := by decide +kernel
theorem dX11_draws_129 : decode cX11_draws 129 = .ok (.iconst 1, 1) := by decide +kernel
theorem dX11_draws_130 : decode cX11_draws 130 = .ok (.isub, 1) := by decide +kernel
theorem dX11_draws_131 : decode cX11_draws 131 = .ok (.goto 4, 3) := by decide +kernel
theorem dX11_draws_134 : decode cX11_draws 134 = .ok (.iconst 0, 1) := by decide +kernel
theorem dX11_draws_135 : decode cX11_draws 135 = .ok (.istore 9, 2) := by decide +kernel
theorem dX11_draws_137 : decode cX11_draws 137 = .ok (.iload 6, 2) := by decide +kernel
theorem dX11_draws_139 : decode cX11_draws 139 = .ok (.iconst 5, 1) := by decide +kernel
theorem dX11_draws_140 : decode cX11_draws 140 = .ok (.if_icmp .ne 24, 3) := by decide +kernel
theorem dX11_draws_143 : decode cX11_draws 143 = .ok (.aload_n 0, 1) := by decide +kernel
theorem dX11_draws_144 : decode cX11_draws 144 = .ok (.getfield 13, 3) := by decide +kernel
theorem dX11_draws_147 : decode cX11_draws 147 = .ok (.bipush 6, 2) := by decide +kernel
theorem dX11_draws_149 : decode cX11_draws 149 = .ok (.iload 7, 2) := by decide +kernel
theorem dX11_draws_151 : decode cX11_draws 151 = .ok (.imul, 1) := by decide +kernel
theorem dX11_draws_152 : decode cX11_draws 152 = .ok (.iload 8, 2) := by decide +kernel
theorem dX11_draws_154 : decode cX11_draws 154 = .ok (.iadd, 1) := by decide +kernel
theorem dX11_draws_155 : decode cX11_draws 155 = .ok (.iaload, 1) := by decide +kernel
theorem dX11_draws_156 : decode cX11_draws 156 = .ok (.iload 9, 2) := by decide +kernel
theorem dX11_draws_158 : decode cX11_draws 158 = .ok (.if_icmp .ne 27, 3) := by decide +kernel
theorem dX11_draws_161 : decode cX11_draws 161 = .ok (.goto 69, 3) := by decide +kernel
theorem dX11_draws_164 : decode cX11_draws 164 = .ok (.aload_n 0, 1) := by decide +kernel
theorem dX11_draws_165 : decode cX11_draws 165 = .ok (.aload_n 0, 1) := by decide +kernel
theorem dX11_draws_166 : decode cX11_draws 166 = .ok (.getfield 13, 3) := by decide +kernel
theorem dX11_draws_169 : decode cX11_draws 169 = .ok (.iload 6, 2) := by decide +kernel
theorem dX11_draws_171 : decode cX11_draws 171 = .ok (.iload 7, 2) := by decide +kernel
theorem dX11_draws_173 : decode cX11_draws 173 = .ok (.iload 8, 2) := by decide +kernel
theorem dX11_draws_175 : decode cX11_draws 175 = .ok (.invokevirtual 181, 3) := by decide +kernel
theorem dX11_draws_178 : decode cX11_draws 178 = .ok (.iconst (-1), 1) := by decide +kernel
theorem dX11_draws_179 : decode cX11_draws 179 = .ok (.if_icmp .eq 6, 3) := by decide +kernel
theorem dX11_draws_182 : decode cX11_draws 182 = .ok (.goto 48, 3) := by decide +kernel
theorem dX11_draws_185 : decode cX11_draws 185 = .ok (.aload_n 0, 1) := by decide +kernel
theorem dX11_draws_186 : decode cX11_draws 186 = .ok (.invokevirtual 167, 3) := by decide +kernel
theorem dX11_draws_189 : decode cX11_draws 189 = .ok (.iload 6, 2) := by decide +kernel
theorem dX11_draws_191 : decode cX11_draws 191 = .ok (.iconst 5, 1) := by decide +kernel
theorem dX11_draws_192 : decode cX11_draws 192 = .ok (.if_icmp .ne 21, 3) := by decide +kernel
theorem dX11_draws_195 : decode cX11_draws 195 = .ok (.aload_n 0, 1) := by decide +kernel
theorem dX11_draws_196 : decode cX11_draws 196 = .ok (.getfield 13, 3) := by decide +kernel
theorem dX11_draws_199 : decode cX11_draws 199 = .ok (.bipush 6, 2) := by decide +kernel
theorem dX11_draws_201 : decode cX11_draws 201 = .ok (.iload 7, 2) := by decide +kernel
theorem dX11_draws_203 : decode cX11_draws 203 = .ok (.imul, 1) := by decide +kernel
theorem dX11_draws_204 : decode cX11_draws 204 = .ok (.iload 8, 2) := by decide +kernel
theorem dX11_draws_206 : decode cX11_draws 206 = .ok (.iadd, 1) := by decide +kernel
theorem dX11_draws_207 : decode cX11_draws 207 = .ok (.iload 9, 2) := by decide +kernel
theorem dX11_draws_209 : decode cX11_draws 209 = .ok (.iastore, 1) := by decide +kernel
theorem dX11_draws_210 : decode cX11_draws 210 = .ok (.goto 17, 3) := by decide +kernel
theorem dX11_draws_213 : decode cX11_draws 213 = .ok (.aload_n 0, 1) := by decide +kernel
theorem dX11_draws_214 : decode cX11_draws 214 = .ok (.aload_n 0, 1) := by decide +kernel
theorem dX11_draws_215 : decode cX11_draws 215 = .ok (.getfield 13, 3) := by decide +kernel
theorem dX11_draws_218 : decode cX11_draws 218 = .ok (.iload 6, 2) := by decide +kernel
theorem dX11_draws_220 : decode cX11_draws 220 = .ok (.iload 7, 2) := by decide +kernel
theorem dX11_draws_222 : decode cX11_draws 222 = .ok (.iload 8, 2) := by decide +kernel
theorem dX11_draws_224 : decode cX11_draws 224 = .ok (.invokevirtual 185, 3) := by decide +kernel
theorem dX11_draws_227 : decode cX11_draws 227 = .ok (.iinc 4 1, 3) := by decide +kernel
theorem dX11_draws_230 : decode cX11_draws 230 = .ok (.iinc 5 1, 3) := by decide +kernel
theorem dX11_draws_233 : decode cX11_draws 233 = .ok (.goto (-193), 3) := by decide +kernel
theorem dX11_draws_236 : decode cX11_draws 236 = .ok (.iload 4, 2) := by decide +kernel
theorem dX11_draws_238 : decode cX11_draws 238 = .ok (.ireturn, 1) := by decide +kernel
theorem dX11_step_0 : decode cX11_step 0 = .ok (.aload_n 0, 1) := by decide +kernel
theorem dX11_step_1 : decode cX11_step 1 = .ok (.iconst 0, 1) := by decide +kernel
theorem dX11_step_2 : decode cX11_step 2 = .ok (.putfield 83, 3) := by decide +kernel
theorem dX11_step_5 : decode cX11_step 5 = .ok (.aload_n 0, 1) := by decide +kernel
theorem dX11_step_6 : decode cX11_step 6 = .ok (.iload_n 1, 1) := by decide +kernel
theorem dX11_step_7 : decode cX11_step 7 = .ok (.invokevirtual 325, 3) := by decide +kernel
theorem dX11_step_10 : decode cX11_step 10 = .ok (.ifCond .eq 51, 3) := by decide +kernel
theorem dX11_step_13 : decode cX11_step 13 = .ok (.iload_n 2, 1) := by decide +kernel
theorem dX11_step_14 : decode cX11_step 14 = .ok (.i2l, 1) := by decide +kernel
theorem dX11_step_15 : decode cX11_step 15 = .ok (.lconst 0, 1) := by decide +kernel
theorem dX11_step_16 : decode cX11_step 16 = .ok (.aload_n 0, 1) := by decide +kernel
theorem dX11_step_17 : decode cX11_step 17 = .ok (.getfield 29, 3) := by decide +kernel
theorem dX11_step_20 : decode cX11_step 20 = .ok (.iload_n 1, 1) := by decide +kernel
theorem dX11_step_21 : decode cX11_step 21 = .ok (.iaload, 1) := by decide +kernel
theorem dX11_step_22 : decode cX11_step 22 = .ok (.iconst 1, 1) := by decide +kernel
theorem dX11_step_23 : decode cX11_step 23 = .ok (.isub, 1) := by decide +kernel
theorem dX11_step_24 : decode cX11_step 24 = .ok (.i2l, 1) := by decide +kernel
theorem dX11_step_25 : decode cX11_step 25 = .ok (.invokestatic 140, 3) := by decide +kernel
theorem dX11_step_28 : decode cX11_step 28 = .ok (.ifCond .eq 33, 3) := by decide +kernel
theorem dX11_step_31 : decode cX11_step 31 = .ok (.iload_n 3, 1) := by decide +kernel
theorem dX11_step_32 : decode cX11_step 32 = .ok (.i2l, 1) := by decide +kernel
theorem dX11_step_33 : decode cX11_step 33 = .ok (.lconst 0, 1) := by decide +kernel
theorem dX11_step_34 : decode cX11_step 34 = .ok (.ldc2_w 231, 3) := by decide +kernel
theorem dX11_step_37 : decode cX11_step 37 = .ok (.invokestatic 140, 3) := by decide +kernel
theorem dX11_step_40 : decode cX11_step 40 = .ok (.ifCond .eq 21, 3) := by decide +kernel
theorem dX11_step_43 : decode cX11_step 43 = .ok (.aload_n 0, 1) := by decide +kernel
theorem dX11_step_44 : decode cX11_step 44 = .ok (.getfield 26, 3) := by decide +kernel
theorem dX11_step_47 : decode cX11_step 47 = .ok (.iconst 4, 1) := by decide +kernel
theorem dX11_step_48 : decode cX11_step 48 = .ok (.bipush 12, 2) := by decide +kernel
theorem dX11_step_50 : decode cX11_step 50 = .ok (.iload_n 1, 1) := by decide +kernel
theorem dX11_step_51 : decode cX11_step 51 = .ok (.imul, 1) := by decide +kernel
theorem dX11_step_52 : decode cX11_step 52 = .ok (.iload_n 2, 1) := by decide +kernel
theorem dX11_step_53 : decode cX11_step 53 = .ok (.iadd, 1) := by decide +kernel
theorem dX11_step_54 : decode cX11_step 54 = .ok (.imul, 1) := by decide +kernel
theorem dX11_step_55 : decode cX11_step 55 = .ok (.iload_n 3, 1) := by decide +kernel
theorem dX11_step_56 : decode cX11_step 56 = .ok (.iadd, 1) := by decide +kernel
theorem dX11_step_57 : decode cX11_step 57 = .ok (.iaload, 1) := by decide +kernel
theorem dX11_step_58 : decode cX11_step 58 = .ok (.goto 5, 3) := by decide +kernel
theorem dX11_step_61 : decode cX11_step 61 = .ok (.ldc 133, 2) := by decide +kernel
theorem dX11_step_63 : decode cX11_step 63 = .ok (.ireturn, 1) := by decide +kernel
theorem dX11_count_0 : decode cX11_count 0 = .ok (.aload_n 0, 1) := by decide +kernel
theorem dX11_count_1 : decode cX11_count 1 = .ok (.iconst 0, 1) := by decide +kernel
theorem dX11_count_2 : decode cX11_count 2 = .ok (.putfield 83, 3) := by decide +kernel
theorem dX11_count_5 : decode cX11_count 5 = .ok (.iconst 0, 1) := by decide +kernel
theorem dX11_count_6 : decode cX11_count 6 = .ok (.istore_n 2, 1) := by decide +kernel
theorem dX11_count_7 : decode cX11_count 7 = .ok (.iconst 0, 1) := by decide +kernel
theorem dX11_count_8 : decode cX11_count 8 = .ok (.istore_n 3, 1) := by decide +kernel
theorem dX11_count_9 : decode cX11_count 9 = .ok (.iload_n 3, 1) := by decide +kernel
theorem dX11_count_10 : decode cX11_count 10 = .ok (.bipush 36, 2) := by decide +kernel
theorem dX11_count_12 : decode cX11_count 12 = .ok (.if_icmp .ge 45, 3) := by decide +kernel
theorem dX11_count_15 : decode cX11_count 15 = .ok (.iload_n 2, 1) := by decide +kernel
theorem dX11_count_16 : decode cX11_count 16 = .ok (.aload_n 0, 1) := by decide +kernel
theorem dX11_count_17 : decode cX11_count 17 = .ok (.aload_n 0, 1) := by decide +kernel
theorem dX11_count_18 : decode cX11_count 18 = .ok (.getfield 13, 3) := by decide +kernel
theorem dX11_count_21 : decode cX11_count 21 = .ok (.iload_n 3, 1) := by decide +kernel
theorem dX11_count_22 : decode cX11_count 22 = .ok (.bipush 6, 2) := by decide +kernel
theorem dX11_count_24 : decode cX11_count 24 = .ok (.idiv, 1) := by decide +kernel
theorem dX11_count_25 : decode cX11_count 25 = .ok (.iload_n 3, 1) := by decide +kernel
theorem dX11_count_26 : decode cX11_count 26 = .ok (.bipush 6, 2) := by decide +kernel
theorem dX11_count_28 : decode cX11_count 28 = .ok (.irem, 1) := by decide +kernel
theorem dX11_count_29 : decode cX11_count 29 = .ok (.invokevirtual 158, 3) := by decide +kernel
theorem dX11_count_32 : decode cX11_count 32 = .ok (.ifCond .eq 16, 3) := by decide +kernel
theorem dX11_count_35 : decode cX11_count 35 = .ok (.aload_n 0, 1) := by decide +kernel
theorem dX11_count_36 : decode cX11_count 36 = .ok (.getfield 13, 3) := by decide +kernel
theorem dX11_count_39 : decode cX11_count 39 = .ok (.iload_n 3, 1) := by decide +kernel
theorem dX11_count_40 : decode cX11_count 40 = .ok (.iaload, 1) := by decide +kernel
theorem dX11_count_41 : decode cX11_count 41 = .ok (.ifCond .eq 7, 3) := by decide +kernel
theorem dX11_count_44 : decode cX11_count 44 = .ok (.iconst 1, 1) := by decide +kernel
theorem dX11_count_45 : decode cX11_count 45 = .ok (.goto 4, 3) := by decide +kernel
theorem dX11_count_48 : decode cX11_count 48 = .ok (.iconst 0, 1) := by decide +kernel
theorem dX11_count_49 : decode cX11_count 49 = .ok (.iadd, 1) := by decide +kernel
theorem dX11_count_50 : decode cX11_count 50 = .ok (.istore_n 2, 1) := by decide +kernel
theorem dX11_count_51 : decode cX11_count 51 = .ok (.iinc 3 1, 3) := by decide +kernel
theorem dX11_count_54 : decode cX11_count 54 = .ok (.goto (-45), 3) := by decide +kernel
theorem dX11_count_57 : decode cX11_count 57 = .ok (.iload_n 1, 1) := by decide +kernel
theorem dX11_count_58 : decode cX11_count 58 = .ok (.tableswitch 80 0 6 #[42, 50, 58, 63, 68, 73, 78], 42) := by decide +kernel
theorem dX11_count_100 : decode cX11_count 100 = .ok (.aload_n 0, 1) := by decide +kernel
theorem dX11_count_101 : decode cX11_count 101 = .ok (.getfield 13, 3) := by decide +kernel
theorem dX11_count_104 : decode cX11_count 104 = .ok (.bipush 36, 2) := by decide +kernel
theorem dX11_count_106 : decode cX11_count 106 = .ok (.iaload, 1) := by decide +kernel
theorem dX11_count_107 : decode cX11_count 107 = .ok (.ireturn, 1) := by decide +kernel
theorem dX11_count_108 : decode cX11_count 108 = .ok (.aload_n 0, 1) := by decide +kernel
theorem dX11_count_109 : decode cX11_count 109 = .ok (.getfield 13, 3) := by decide +kernel
theorem dX11_count_112 : decode cX11_count 112 = .ok (.bipush 37, 2) := by decide +kernel
theorem dX11_count_114 : decode cX11_count 114 = .ok (.iaload, 1) := by decide +kernel
theorem dX11_count_115 : decode cX11_count 115 = .ok (.ireturn, 1) := by decide +kernel
theorem dX11_count_116 : decode cX11_count 116 = .ok (.aload_n 0, 1) := by decide +kernel
theorem dX11_count_117 : decode cX11_count 117 = .ok (.getfield 189, 3) := by decide +kernel
theorem dX11_count_120 : decode cX11_count 120 = .ok (.ireturn, 1) := by decide +kernel
theorem dX11_count_121 : decode cX11_count 121 = .ok (.aload_n 0, 1) := by decide +kernel
theorem dX11_count_122 : decode cX11_count 122 = .ok (.getfield 150, 3) := by decide +kernel
theorem dX11_count_125 : decode cX11_count 125 = .ok (.ireturn, 1) := by decide +kernel
theorem dX11_count_126 : decode cX11_count 126 = .ok (.aload_n 0, 1) := by decide +kernel
theorem dX11_count_127 : decode cX11_count 127 = .ok (.getfield 87, 3) := by decide +kernel
theorem dX11_count_130 : decode cX11_count 130 = .ok (.ireturn, 1) := by decide +kernel
theorem dX11_count_131 : decode cX11_count 131 = .ok (.aload_n 0, 1) := by decide +kernel
theorem dX11_count_132 : decode cX11_count 132 = .ok (.getfield 155, 3) := by decide +kernel
theorem dX11_count_135 : decode cX11_count 135 = .ok (.ireturn, 1) := by decide +kernel
theorem dX11_count_136 : decode cX11_count 136 = .ok (.iload_n 2, 1) := by decide +kernel
theorem dX11_count_137 : decode cX11_count 137 = .ok (.ireturn, 1) := by decide +kernel
theorem dX11_count_138 : decode cX11_count 138 = .ok (.ldc 133, 2) := by decide +kernel
theorem dX11_count_140 : decode cX11_count 140 = .ok (.ireturn, 1) := by decide +kernel
theorem TB_tset {g : Nat → Int32} {T : tb} (h : TB g T) {i j : Nat} (hi : i < T.1) (hj : j < T.2.1) {v : Int32} (hv : sml v) : TB (upd g (6 * i + j) v) (tset T i j v) := by
  obtain ⟨h1, h2, h3, h4, h5⟩ := h
  refine ⟨by rw [upd_36 (Or.inl rfl) (by omega) (by omega)]; exact h1, by rw [upd_36 (Or.inr rfl) (by omega) (by omega)]; exact h2, h3, h4, fun a b ha hb => ?_⟩
  have ha : a < T.1 := ha
  have hb : b < T.2.1 := hb
  rw [upd6 (by omega) (by omega)]
  show _ = (if a = i ∧ b = j then v else T.2.2 a b) ∧ sml (if a = i ∧ b = j then v else T.2.2 a b)
  split
  · exact ⟨rfl, hv⟩
  · exact h5 a b ha hb
theorem s_doesStep {σ : sg} {x : aW} {t : Nat} (ht : LY t (0, 38, [])) (hne : t ≠ i_m_trial) (hnp : t ≠ i_m_plan) {T : tb} (hT0 : TB (σ.2.2 t) T) (ok : tbOK T) (q : Nat) (hq : q + 3 < 240) {s : Nat → Int32} (hs : stepOK s) (hsr : ∀ j, j < 4 → σ.2.2 i_m_plan (q + j) = s j) (hc : stepCan T s) :
    Mt mX11_doesStep 3 0 0 [.ref i_M, .ref t, .int (nI q)] (wd σ x) (fun r w => r = none ∧ ∃ g h : Nat → Int32, w = wd (sA (sA σ i_m_trial h) t g) x ∧ TB g (stepA T s)) := by
  refine Mt.of MI_X11_doesStep (Nat.le_of_ble_eq_true rfl) (fun X hC hR hT => ?_)
  have r0 := hsr 0 (by decide)
  have r1 := hsr 1 (by decide)
  have r2 := hsr 2 (by decide)
  have r3 := hsr 3 (by decide)
  have o1 := ok.1
  have o2 := ok.2.1
  rcases hc with ⟨k, hk, e, hz⟩ | ⟨e, h1, h2, h3⟩
  · have r0 : σ.2.2 i_m_plan q = nI k := by rw [← e]; exact r0
    have ea : stepA T s = doA k (s 1).toNatClampNeg (s 2).toNatClampNeg T := by
      unfold stepA; rw [if_neg (by rw [e]; exact nI_ne (by omega) (by omega) (by omega)), e, nI_clamp (by omega)]
    refine R_aload_n (i := 0) hC dX11_doesStep_0 rfl rfl (R_gR hC dX11_doesStep_1 fl_X11_26 L_M rfl (R_iload_n (i := 2) hC dX11_doesStep_4 rfl rfl (R_aI hC dX11_doesStep_5 L_m_plan q rfl (by omega) (by decide) ?_)))
    refine R_top (y := nI k) r0 ?_
    refine R_bipush (v := 6) hC dX11_doesStep_6 (by decide) ?_
    refine R_icmp_ge hC 41 dX11_doesStep_8 (by decide) (fun h => absurd h (nI_ge (b := 6) hk (by decide))) (fun _ => ?_)
    refine R_aload_n (i := 0) hC dX11_doesStep_11 rfl rfl (R_aload_n (i := 1) hC dX11_doesStep_12 rfl rfl (R_aload_n (i := 0) hC dX11_doesStep_13 rfl rfl (R_gR hC dX11_doesStep_14 fl_X11_26 L_M rfl (R_iload_n (i := 2) hC dX11_doesStep_17 rfl rfl (R_aI hC dX11_doesStep_18 L_m_plan q rfl (by omega) (by decide) ?_)))))
    refine R_top (y := nI k) r0 ?_
    refine R_aload_n (i := 0) hC dX11_doesStep_19 rfl rfl (R_gR hC dX11_doesStep_20 fl_X11_26 L_M rfl (R_iload_n (i := 2) hC dX11_doesStep_23 rfl rfl (R_iconst (v := 1) hC dX11_doesStep_24 (by decide) (R_iadd hC dX11_doesStep_25 (R_aI hC dX11_doesStep_26 L_m_plan (q + 1) (nI_1 q) (by omega) (by decide) ?_)))))
    refine R_top (y := s 1) r1 ?_
    refine R_aload_n (i := 0) hC dX11_doesStep_27 rfl rfl (R_gR hC dX11_doesStep_28 fl_X11_26 L_M rfl (R_iload_n (i := 2) hC dX11_doesStep_31 rfl rfl (R_iconst (v := 2) hC dX11_doesStep_32 (by decide) (R_iadd hC dX11_doesStep_33 (R_aI hC dX11_doesStep_34 L_m_plan (q + 2) (by rw [show (2 : Int32) = nI 2 from rfl, nI_add]) (by omega) (by decide) ?_)))))
    refine R_top (y := s 2) r2 ?_
    refine R_V4g hC hR dX11_doesStep_35 MV_X11_does ml_X11_185 L_M rfl (s_does ht hne hT0 ok hz) (by decide) ⟨by decide, by decide⟩ (Nat.le_of_ble_eq_true rfl) (fun r w1 hq => ?_)
    obtain ⟨rfl, g, h, rfl, hg⟩ := hq
    refine R_goto hC 71 dX11_doesStep_38 (by decide) ?_
    exact R_vret hC hT dX11_doesStep_71 rfl ⟨rfl, g, h, rfl, by rw [ea]; exact hg⟩
  · obtain ⟨i, ei, hi, hi2⟩ := inR_i h1
    obtain ⟨j, ej, hj, hj2⟩ := inR_i h2
    have r0 : σ.2.2 i_m_plan q = nI 6 := by rw [← e]; exact r0
    have hv : sml (s 3) := by
      obtain ⟨k, hk, e2, -, -, h6⟩ := hs
      exact h6 ((nI_eq (by omega) (by decide)).mp (e2.symm.trans e))
    have ea : stepA T s = tset T i j (s 3) := by
      unfold stepA; rw [if_pos e, ei, ej, nI_clamp hi2, nI_clamp hj2]
    refine R_aload_n (i := 0) hC dX11_doesStep_0 rfl rfl (R_gR hC dX11_doesStep_1 fl_X11_26 L_M rfl (R_iload_n (i := 2) hC dX11_doesStep_4 rfl rfl (R_aI hC dX11_doesStep_5 L_m_plan q rfl (by omega) (by decide) ?_)))
    refine R_top (y := nI 6) r0 ?_
    refine R_bipush (v := 6) hC dX11_doesStep_6 (by decide) ?_
    refine R_icmp_ge hC 41 dX11_doesStep_8 (by decide) (fun _ => ?_) (fun h => absurd (by decide) h)
    refine R_aload_n (i := 1) hC dX11_doesStep_41 rfl rfl (R_bipush (v := 6) hC dX11_doesStep_42 (by decide) (R_aload_n (i := 0) hC dX11_doesStep_44 rfl rfl (R_gR hC dX11_doesStep_45 fl_X11_26 L_M rfl (R_iload_n (i := 2) hC dX11_doesStep_48 rfl rfl (R_iconst (v := 1) hC dX11_doesStep_49 (by decide) (R_iadd hC dX11_doesStep_50 (R_aI hC dX11_doesStep_51 L_m_plan (q + 1) (nI_1 q) (by omega) (by decide) ?_)))))))
    refine R_top (y := nI i) (r1.trans ei) ?_
    refine R_imul hC dX11_doesStep_52 (R_aload_n (i := 0) hC dX11_doesStep_53 rfl rfl (R_gR hC dX11_doesStep_54 fl_X11_26 L_M rfl (R_iload_n (i := 2) hC dX11_doesStep_57 rfl rfl (R_iconst (v := 2) hC dX11_doesStep_58 (by decide) (R_iadd hC dX11_doesStep_59 (R_aI hC dX11_doesStep_60 L_m_plan (q + 2) (by rw [show (2 : Int32) = nI 2 from rfl, nI_add]) (by omega) (by decide) ?_))))))
    refine R_top (y := nI j) (r2.trans ej) ?_
    refine R_iadd hC dX11_doesStep_61 (R_aload_n (i := 0) hC dX11_doesStep_62 rfl rfl (R_gR hC dX11_doesStep_63 fl_X11_26 L_M rfl (R_iload_n (i := 2) hC dX11_doesStep_66 rfl rfl (R_iconst (v := 3) hC dX11_doesStep_67 (by decide) (R_iadd hC dX11_doesStep_68 (R_aI hC dX11_doesStep_69 L_m_plan (q + 3) (by rw [show (3 : Int32) = nI 3 from rfl, nI_add]) (by omega) (by decide) ?_))))))
    refine R_top (y := s 3) r3 ?_
    refine R_sI hC dX11_doesStep_70 ht (6 * i + j) (n6 i j) (by omega) (by decide) ?_
    exact R_vret hC hT dX11_doesStep_71 rfl ⟨rfl, upd (σ.2.2 t) (6 * i + j) (s 3), σ.2.2 i_m_trial, by rw [sA_self], by rw [ea]; exact TB_tset hT0 hi hj hv⟩
theorem s_canStepB {σ : sg} {x : aW} {t : Nat} (ht : LY t (0, 38, [])) (hne : t ≠ i_m_trial) {T : tb} (hT0 : TB (σ.2.2 t) T) (q : Nat) (hq : q + 3 < 240) {s : Nat → Int32} (hs : stepOK s) (hsr : ∀ j, j < 4 → σ.2.2 i_m_plan (q + j) = s j) :
    Mt mX11_canStep 3 0 0 [.ref i_M, .ref t, .int (nI q)] (wd σ x) (fun r w => ∃ g : Nat → Int32, w = wd (sA σ i_m_trial g) x ∧ r = some (.int (b2i (stepCan T s)))) := by
  refine (s_canStep ht hne hT0 q hq hs hsr).mono ?_
  rintro r w ⟨g, rfl, ⟨h, rfl⟩ | ⟨h, rfl⟩⟩
  · exact ⟨g, rfl, by rw [b2i_t h]⟩
  · exact ⟨g, rfl, by rw [b2i_f h]⟩
/-- the steps of a script done one by one, as acts -/
noncomputable def perfA (s : scr) : Nat → Nat → aS → Nat × aS
  | 0, i, α => (i, α)
  | f + 1, i, α => by classical exact if i < s.1 ∧ stepCan (tT α) (s.2 i) then perfA s f (i + 1) (pushT α (stepA (tT α) (s.2 i))) else (i, α)
theorem perfA_y {s : scr} {f i : Nat} {α : aS} (h : i < s.1 ∧ stepCan (tT α) (s.2 i)) : perfA s (f + 1) i α = perfA s f (i + 1) (pushT α (stepA (tT α) (s.2 i))) := by
  rw [perfA, if_pos h]
theorem perfA_n {s : scr} {f i : Nat} {α : aS} (h : ¬ (i < s.1 ∧ stepCan (tT α) (s.2 i))) : perfA s (f + 1) i α = (i, α) := by
  rw [perfA, if_neg h]
theorem pushP_ok {P : Nat × (Nat → tb)} {T : tb} (h : P.1 ≤ 40 ∧ ∀ k, k < P.1 → tbOK (P.2 k)) (hT : tbOK T) : (pushP P T).1 ≤ 40 ∧ ∀ k, k < (pushP P T).1 → tbOK ((pushP P T).2 k) := by
  unfold pushP
  by_cases e : P.1 = 40
  · rw [if_pos e]
    refine ⟨Nat.le_refl _, fun k hk => ?_⟩
    show tbOK (if k = 39 then T else P.2 (k + 1))
    have hk : k < 40 := hk
    split
    · exact hT
    · exact h.2 _ (by omega)
  · rw [if_neg e]
    refine ⟨by show P.1 + 1 ≤ 40; omega, fun k hk => ?_⟩
    show tbOK (if k = P.1 then T else P.2 k)
    have hk : k < P.1 + 1 := hk
    split
    · exact hT
    · exact h.2 _ (by omega)
theorem aOK_push {α : aS} (ok : aOK α) {T : tb} (hT : tbOK T) : aOK (pushT α T) := by
  obtain ⟨o1, o2, o3, o4, o5, o6, o7⟩ := ok
  exact ⟨o1, o2, hT, o4, o5, pushP_ok o6 o3, o7⟩
theorem stepA_pos {T : tb} (ok : tbOK T) {s : Nat → Int32} (h : stepCan T s) (h0 : ¬ T.1 = 0) : ¬ (stepA T s).1 = 0 := by
  have o3 := ok.2.2.1
  unfold stepA
  rcases h with ⟨k, hk, e, h⟩ | ⟨e, -⟩
  · rw [if_neg (by rw [e]; exact nI_ne (by omega) (by omega) (by omega)), e, nI_clamp (by omega)]
    match k, hk with
    | 0, _ => exact h0
    | 1, _ => exact h0
    | 2, _ => exact h0
    | 3, _ => exact h0
    | 4, _ => exact h0
    | 5, _ => show ¬ T.2.1 = 0; omega
  · rw [if_pos e]; exact h0
noncomputable def opPerform (α : aS) (k : Int32) : Int32 × aS := by classical exact
  if (¬ (tT α).1 = 0 ∧ inR (tS α).1 k) then (nI (perfA ((tS α).2 k.toNatClampNeg) 13 0 α).1, (perfA ((tS α).2 k.toNatClampNeg) 13 0 α).2) else (-1, α)
theorem mo_perform {σ : sg} {x : aW} {α : aS} (h : MInv σ α) (ok : aOK α) (k : Int32) : Mt mX11_perform 4 0 0 [.ref i_M, .int k] (wd σ x) (MPost σ x (opPerform α k).1 (opPerform α k).2) := by
  refine Mt.of MI_X11_perform (Nat.le_of_ble_eq_true rfl) (fun X hC hR hT => ?_)
  have hT1 : σ.2.2 i_m_now 36 = nI (tT α).1 := h.2.1.1
  have h1 := M_thr h 0
  have c1 : CEq σ (sG σ i_M 0 0) := (CEq.rf σ).g (Nat.le_refl _)
  have loop : ∀ (q : Nat), k = nI q → q < (tS α).1 → opPerform α k = (nI (perfA ((tS α).2 q) 13 0 α).1, (perfA ((tS α).2 q) 13 0 α).2) → ∀ f i τ β, i + f = 13 → MInv τ β → aOK β → tS β = tS α → ¬ (tT β).1 = 0 → CEq σ τ → perfA ((tS α).2 q) 13 0 α = perfA ((tS α).2 q) f i β → i ≤ 12 → Rw mX11_perform X 27 [some (.ref i_M), some (.int k), some (.int (nI i))] [] (wd τ x) 0 0 := by
    intro q ek hq eo f
    have hS := ok.2.2.2.2.1
    have b1 := hS.1
    obtain ⟨b2, b3, b4⟩ := hS.2 q hq
    induction f with
    | zero => intro i τ β hf; intros; omega
    | succ f ih =>
      intro i τ β hf hm okβ eS hne hce hp hi
      have eS2 : (tS β).2 q = (tS α).2 q := by rw [eS]
      have hpl : τ.2.2 i_m_planLong q = nI ((tS α).2 q).1 := by rw [← eS2]; exact (hm.2.2.2.1.2 q (by rw [eS]; exact hq)).1
      have hst : ∀ j, j < 4 → i < ((tS α).2 q).1 → τ.2.2 i_m_plan (4 * (12 * q + i) + j) = ((tS α).2 q).2 i j := fun j hj hi2 => by
        have := (hm.2.2.2.1.2 q (by rw [eS]; exact hq)).2 i j (by rw [eS2]; exact hi2) hj
        rw [eS2] at this; exact this
      have e27 : ∀ j : Nat, k * 1 = k := fun _ => Int32.mul_one _
      by_cases hlt : i < ((tS α).2 q).1
      · refine R_iload_n (i := 2) hC dX11_perform_27 rfl rfl (R_aload_n (i := 0) hC dX11_perform_28 rfl rfl (R_gR hC dX11_perform_29 fl_X11_29 L_M rfl (R_iload_n (i := 1) hC dX11_perform_32 rfl rfl (R_aI hC dX11_perform_33 L_m_planLong q ek (by omega) (by decide) ?_))))
        refine R_top (y := nI ((tS α).2 q).1) hpl ?_
        refine R_icmp_ge hC 82 dX11_perform_34 (by decide) (fun h => absurd h (nI_ge hlt (by omega))) (fun _ => ?_)
        refine R_aload_n (i := 0) hC dX11_perform_37 rfl rfl (R_aload_n (i := 0) hC dX11_perform_38 rfl rfl (R_gR hC dX11_perform_39 fl_X11_13 L_M rfl (R_iconst (v := 4) hC dX11_perform_42 (by decide) (R_bipush (v := 12) hC dX11_perform_43 (by decide) (R_iload_n (i := 1) hC dX11_perform_45 rfl rfl (R_imul hC dX11_perform_46 (R_iload_n (i := 2) hC dX11_perform_47 rfl rfl ?_)))))))
        refine R_iadd hC dX11_perform_48 (R_imul hC dX11_perform_49 ?_)
        refine R_top (y := nI (4 * (12 * q + i))) (by rw [ek]; exact n412 q i) ?_
        refine R_V2g hC hR dX11_perform_50 MV_X11_canStep ml_X11_328 L_M rfl (s_canStepB L_m_now (by decide) (hm.2.1.TB okβ.2.2.1) (4 * (12 * q + i)) (by omega) (b4 i hlt) (fun j hj => hst j hj hlt)) (by decide) ⟨by decide, by decide⟩ (Nat.le_of_ble_eq_true rfl) (fun r w1 hq => ?_)
        obtain ⟨g, rfl, rfl⟩ := hq
        have hm2 : MInv (sA τ i_m_trial g) β := hm.a (by decide)
        refine R_if_eq hC 82 dX11_perform_53 (by decide) (fun h53 => ?_) (fun h53 => ?_)
        · refine R_iload_n (i := 2) hC dX11_perform_82 rfl rfl ?_
          exact R_iret hC hT dX11_perform_83 rfl (by rw [eo, hp, perfA_n (fun z => b2i_0 h53 z.2)]; exact MPost.i hm2 (hce.a (by decide)))
        · have hcan := b2i_ne h53
          refine R_aload_n (i := 0) hC dX11_perform_56 rfl rfl ?_
          refine R_V0g hC hR dX11_perform_57 MV_X11_remember ml_X11_167 L_M rfl (s_remember hm2 okβ) (by decide) ⟨by decide, by decide⟩ (Nat.le_of_ble_eq_true rfl) (fun r w1 hq => ?_)
          obtain ⟨rfl, p, g2, rfl, hm3⟩ := hq
          refine R_aload_n (i := 0) hC dX11_perform_60 rfl rfl (R_aload_n (i := 0) hC dX11_perform_61 rfl rfl (R_gR hC dX11_perform_62 fl_X11_13 L_M rfl (R_iconst (v := 4) hC dX11_perform_65 (by decide) (R_bipush (v := 12) hC dX11_perform_66 (by decide) (R_iload_n (i := 1) hC dX11_perform_68 rfl rfl (R_imul hC dX11_perform_69 (R_iload_n (i := 2) hC dX11_perform_70 rfl rfl ?_)))))))
          refine R_iadd hC dX11_perform_71 (R_imul hC dX11_perform_72 ?_)
          refine R_top (y := nI (4 * (12 * q + i))) (by rw [ek]; exact n412 q i) ?_
          refine R_V2g hC hR dX11_perform_73 MV_X11_doesStep ml_X11_332 L_M rfl (s_doesStep L_m_now (by decide) (by decide) (hm3.2.1.TB okβ.2.2.1) okβ.2.2.1 (4 * (12 * q + i)) (by omega) (b4 i hlt) (fun j hj => hst j hj hlt) hcan) (by decide) ⟨by decide, by decide⟩ (Nat.le_of_ble_eq_true rfl) (fun r w1 hq => ?_)
          obtain ⟨rfl, g3, h3, rfl, hg3⟩ := hq
          refine R_iinc hC dX11_perform_76 rfl (inc1 _) (by decide) rfl (R_goto hC 27 dX11_perform_79 (by decide) ?_)
          exact ih (i + 1) _ (pushT β (stepA (tT β) (((tS α).2 q).2 i))) (by omega) ((hm3.a (i := i_m_trial) (by decide)).now hg3.TR) (aOK_push okβ (tbOK_step okβ.2.2.1 (b4 i hlt) hcan)) eS (stepA_pos okβ.2.2.1 hcan hne) (((((hce.a (by decide)).g (Nat.le_refl _)).a (by decide)).a (by decide)).a (by decide)) (by rw [hp, perfA_y ⟨hlt, hcan⟩]) (by omega)
      · refine R_iload_n (i := 2) hC dX11_perform_27 rfl rfl (R_aload_n (i := 0) hC dX11_perform_28 rfl rfl (R_gR hC dX11_perform_29 fl_X11_29 L_M rfl (R_iload_n (i := 1) hC dX11_perform_32 rfl rfl (R_aI hC dX11_perform_33 L_m_planLong q ek (by omega) (by decide) ?_))))
        refine R_top (y := nI ((tS α).2 q).1) hpl ?_
        refine R_icmp_ge hC 82 dX11_perform_34 (by decide) (fun _ => ?_) (fun h => absurd (nI_le (by omega) (by omega)) h)
        refine R_iload_n (i := 2) hC dX11_perform_82 rfl rfl ?_
        exact R_iret hC hT dX11_perform_83 rfl (by rw [eo, hp, perfA_n (fun z => hlt z.1)]; exact MPost.i hm hce)
  refine R_aload_n (i := 0) hC dX11_perform_0 rfl rfl (R_iconst (v := 0) hC dX11_perform_1 (by decide) (R_pI hC dX11_perform_2 fl_X11_83 L_M rfl (R_aload_n (i := 0) hC dX11_perform_5 rfl rfl (R_gR hC dX11_perform_6 fl_X11_13 L_M rfl (R_bipush (v := 36) hC dX11_perform_9 (by decide) (R_aI hC dX11_perform_11 L_m_now 36 rfl (by decide) (by decide) ?_))))))
  refine R_top (y := nI (tT α).1) hT1 ?_
  refine R_if_eq hC 23 dX11_perform_12 (by decide) (fun h12 => ?_) (fun h12 => ?_)
  · refine R_iconst (v := (-1)) hC dX11_perform_23 (by decide) ?_
    exact R_iret hC hT dX11_perform_24 rfl (by
    have e : opPerform α k = (-1, α) := by
      unfold opPerform
      rw [if_neg]
      rintro ⟨z1, z2⟩
      first
      | exact z1 ((T0_iff ok).mp h12)
      | exact b2i_0 h20 z2
    rw [e]; exact MPost.i h1 c1)
  · refine R_aload_n (i := 0) hC dX11_perform_15 rfl rfl (R_iload_n (i := 1) hC dX11_perform_16 rfl rfl ?_)
    refine R_V1i hC hR dX11_perform_17 MV_X11_isPlan ml_X11_325 L_M rfl (s_isPlan _ _ _) (by decide) ⟨by decide, by decide⟩ (Nat.le_of_ble_eq_true rfl) ?_
    have e13 : ((sG σ i_M 0 0).1 i_M 13).toInt = (tS α).1 := by rw [sG_nk (by decide), h.2.2.2.1.1, nI_toInt (by have := ok.2.2.2.2.1.1; omega)]
    rw [e13]
    refine R_if_ne hC 25 dX11_perform_20 (by decide) (fun h20 => ?_) (fun h20 => ?_)
    · have hin := b2i_ne h20
      obtain ⟨q, ek, hq, hq2⟩ := inR_i (n := (tS α).1) hin
      have n0 : ¬ (tT α).1 = 0 := fun z => h12 ((T0_iff ok).mpr z)
      refine R_iconst (v := 0) hC dX11_perform_25 (by decide) (R_istore_n (i := 2) hC dX11_perform_26 rfl (by decide) rfl ?_)
      exact loop q ek hq (by unfold opPerform; rw [if_pos ⟨n0, hin⟩, ek, nI_clamp hq2]) 13 0 _ α rfl h1 ok rfl n0 c1 rfl (by decide)
    · refine R_iconst (v := (-1)) hC dX11_perform_23 (by decide) ?_
      exact R_iret hC hT dX11_perform_24 rfl (by
      have e : opPerform α k = (-1, α) := by
        unfold opPerform
        rw [if_neg]
        rintro ⟨z1, z2⟩
        first
        | exact z1 ((T0_iff ok).mp h12)
        | exact b2i_0 h20 z2
      rw [e]; exact MPost.i h1 c1)
end
section
def dx (x : Int64) : Int64 := x * 6364136223846793005 + 1442695040888963407
def dr (x : Int64) (m : Nat) : Nat := (x.toUInt64.toNat / 8589934592) % m
theorem lN_div {a b : Nat} (ha : a < 2 ^ 31) (hb : b < 2 ^ 31) : lN a / lN b = lN (a / b) := by
  apply Int64.toInt_inj.mp
  have h1 : a / b < 2 ^ 31 := Nat.lt_of_le_of_lt (Nat.div_le_self a b) ha
  rw [Int64.toInt_div, lN_toInt ha, lN_toInt hb, lN_toInt h1]
  have e : ((a : Int).tdiv (b : Int)) = ((a / b : Nat) : Int) := by
    rw [Int.tdiv_eq_ediv_of_nonneg (by omega)]; rfl
  have hb : (a / b : Nat) < 9223372036854775808 := by omega
  generalize (a / b : Nat) = c at *
  rw [e]
  exact Int.bmod_eq_of_le (by omega) (by omega)
theorem dshr (x : Int64) : (x.toUInt64 >>> ((33 : Int32).toInt64.toUInt64 &&& Int64.toUInt64 63)).toInt64 = lN (x.toUInt64.toNat / 8589934592) := by
  have e : ((33 : Int32).toInt64.toUInt64 &&& Int64.toUInt64 63) = UInt64.ofNat 33 := by decide
  rw [e]
  have hlt : x.toUInt64.toNat < 2 ^ 64 := x.toUInt64.toNat_lt
  have h : x.toUInt64 >>> UInt64.ofNat 33 = UInt64.ofNat (x.toUInt64.toNat / 8589934592) := by
    apply UInt64.toNat_inj.mp
    rw [UInt64.toNat_shiftRight]
    have e2 : (UInt64.ofNat 33).toNat % 64 = 33 := by decide
    rw [e2, Nat.shiftRight_eq_div_pow, UInt64.toNat_ofNat_of_lt' (by have : x.toUInt64.toNat / 8589934592 ≤ x.toUInt64.toNat := Nat.div_le_self _ _; show _ < 18446744073709551616; omega)]
  rw [h]
  rfl
theorem drawZ (x : Int64) {m : Nat} (h0 : 0 < m) (hm : m < 2 ^ 31) : ((x.toUInt64 >>> ((33 : Int32).toInt64.toUInt64 &&& Int64.toUInt64 63)).toInt64 - (x.toUInt64 >>> ((33 : Int32).toInt64.toUInt64 &&& Int64.toUInt64 63)).toInt64 / (nI m).toInt64 * (nI m).toInt64).toInt32 = nI (dr x m) := by
  have hlt : x.toUInt64.toNat < 2 ^ 64 := x.toUInt64.toNat_lt
  have hu : x.toUInt64.toNat / 8589934592 < 2 ^ 31 := by omega
  rw [dshr, nI_l hm, lN_div hu hm, lN_mul, lN_sub (Nat.div_mul_le_self _ _), lN_i]
  congr 1
  unfold dr
  have := Nat.div_add_mod (x.toUInt64.toNat / 8589934592) m
  rw [Nat.mul_comm] at this
  omega
theorem sL_eq (σ : sg) (i : Nat) (v : Int64) : (sL σ i v).2.1 i = v := by simp [sL]
theorem uL {fl : List (Nat × Nat)} {n : Nat} (h : fl.zipIdx.all (fun q => q.1.1 != 1 || q.2 == n) = true) : ∀ k2 z2, fl[k2]? = some (1, z2) → k2 = n := by
  intro k2 z2 h2
  have h3 : ((1, z2), k2) ∈ fl.zipIdx := by
    rw [List.mem_iff_getElem?]
    exact ⟨k2, by rw [List.getElem?_zipIdx, h2]; simp⟩
  have h4 := List.all_eq_true.mp h _ h3
  simpa using h4
theorem lm_ne {m : Nat} (h0 : 0 < m) (hm : m < 2 ^ 31) : ¬ (nI m).toInt64 = 0 := by
  rw [nI_l hm]
  intro q
  have := congrArg Int64.toInt q
  rw [lN_toInt hm] at this
  have e : (0 : Int64).toInt = 0 := by decide
  omega
theorem s_draw (σ : sg) (x : aW) (m : Nat) (h0 : 0 < m) (hm : m < 2 ^ 31) : Mt mX11_draw 0 0 0 [.ref i_M, .int (nI m)] (wd σ x) (QI (nI (dr (dx (σ.2.1 i_M)) m)) (wd (sL σ i_M (dx (σ.2.1 i_M))) x)) := by
  refine Mt.of MI_X11_draw (Nat.le_of_ble_eq_true rfl) (fun X hC hR hT => ?_)
  refine R_aload_n (i := 0) hC dX11_draw_0 rfl rfl (R_aload_n (i := 0) hC dX11_draw_1 rfl rfl (R_gL hC dX11_draw_2 fl_X11_336 L_M rfl (R_ldc2 hC dX11_draw_5 kc_X11_340 (R_lmul hC dX11_draw_8 (R_ldc2 hC dX11_draw_9 kc_X11_342 (R_ladd hC dX11_draw_12 (R_pL hC dX11_draw_13 fl_X11_336 L_M rfl (uL (by decide)) ?_)))))))
  refine R_aload_n (i := 0) hC dX11_draw_16 rfl rfl (R_gL hC dX11_draw_17 fl_X11_336 L_M rfl ?_)
  rw [sL_eq]
  refine R_bipush (v := 33) hC dX11_draw_20 (by decide) (R_lushr hC dX11_draw_22 (R_iload_n (i := 1) hC dX11_draw_23 rfl rfl (R_i2l hC dX11_draw_24 (R_lrem hC dX11_draw_25 (lm_ne h0 hm) (R_l2i hC dX11_draw_26 ?_)))))
  exact R_iret hC hT dX11_draw_27 rfl ⟨congrArg (fun z => some (Value.int z)) (drawZ _ h0 hm), rfl⟩
/-- one of the draws: what, of which, and what it does -/
def wOf (x : Int64) : Nat := dr (dx x) 6
def x2 (x : Int64) : Int64 := dx (dx x)
def aOf (x : Int64) (T : tb) : Nat := dr (x2 x) (if wOf x = 1 ∨ wOf x = 3 then T.2.1 else T.1)
def x3 (x : Int64) : Int64 := if wOf x < 2 then x2 x else dx (x2 x)
def bOf (x : Int64) (T : tb) : Nat := if wOf x < 2 then 0 else dr (x3 x) (if wOf x = 2 then T.1 else T.2.1)
def x4 (x : Int64) : Int64 := if wOf x = 5 then dx (x3 x) else x3 x
def vOf (x : Int64) : Int32 := if wOf x = 5 then nI (dr (x4 x) 3) - 1 else 0
noncomputable def drAct (w a b : Nat) (v : Int32) (α : aS) : Nat × aS := by classical exact
  if w = 5 then (if ((tT α).2.2 a b = v) then (0, α) else (1, pushT α (tset (tT α) a b v)))
  else (if (stopZ (tT α) w (nI a) (nI b) = -1) then (1, pushT α (doA w a b (tT α))) else (0, α))
noncomputable def drwN : Nat → Int64 → aS → Nat × aS
  | 0, _, α => (0, α)
  | n + 1, x, α => ((drAct (wOf x) (aOf x (tT α)) (bOf x (tT α)) (vOf x) α).1 + (drwN n (x4 x) (drAct (wOf x) (aOf x (tT α)) (bOf x (tT α)) (vOf x) α).2).1, (drwN n (x4 x) (drAct (wOf x) (aOf x (tT α)) (bOf x (tT α)) (vOf x) α).2).2)
noncomputable def opDraws (α : aS) (n : Int32) (seed : Int64) : Int32 × aS := by classical exact
  if (¬ (tT α).1 = 0 ∧ 1 ≤ n.toInt ∧ n.toInt ≤ 30) then (nI (drwN n.toNatClampNeg seed α).1, (drwN n.toNatClampNeg seed α).2) else (-1, α)
theorem dr_lt (x : Int64) {m : Nat} (h : 0 < m) : dr x m < m := Nat.mod_lt _ h
theorem vOf_sml (x : Int64) : sml (vOf x) := by
  unfold vOf
  split
  · have h := dr_lt (x4 x) (m := 3) (by decide)
    rcases (by omega : dr (x4 x) 3 = 0 ∨ dr (x4 x) 3 = 1 ∨ dr (x4 x) 3 = 2) with e | e | e <;> rw [e] <;> first | exact Or.inl (by decide) | exact Or.inr (Or.inl (by decide)) | exact Or.inr (Or.inr (by decide))
  · exact Or.inr (Or.inl rfl)
theorem doA_pos {T : tb} (ok : tbOK T) {k : Nat} {a b : Nat} (hk : k ≤ 5) (h0 : ¬ T.1 = 0) : ¬ (doA k a b T).1 = 0 := by
  have o3 := ok.2.2.1
  match k, hk with
  | 0, _ => exact h0
  | 1, _ => exact h0
  | 2, _ => exact h0
  | 3, _ => exact h0
  | 4, _ => exact h0
  | 5, _ => show ¬ T.2.1 = 0; omega
/-- the act of a draw keeps all well formed -/
theorem drAct_ok {w a b : Nat} {v : Int32} {α : aS} (ok : aOK α) (h0 : ¬ (tT α).1 = 0) (hv : sml v) (hw : w < 6) (ha : a < 2 ^ 31) (hb : b < 2 ^ 31) : aOK (drAct w a b v α).2 ∧ ¬ (tT (drAct w a b v α).2).1 = 0 := by
  unfold drAct
  by_cases h5 : w = 5
  · rw [if_pos h5]
    by_cases e : (tT α).2.2 a b = v
    · rw [if_pos e]; exact ⟨ok, h0⟩
    · rw [if_neg e]; exact ⟨aOK_push ok (tbOK_tset ok.2.2.1 a b hv), h0⟩
  · rw [if_neg h5]
    by_cases e : stopZ (tT α) w (nI a) (nI b) = -1
    · rw [if_pos e]
      have := tbOK_doA ok.2.2.1 e
      rw [nI_clamp ha, nI_clamp hb] at this
      exact ⟨aOK_push ok this, doA_pos ok.2.2.1 (by omega) h0⟩
    · rw [if_neg e]; exact ⟨ok, h0⟩
theorem sL_sL (σ : sg) (i : Nat) (v u : Int64) : sL (sL σ i v) i u = sL σ i u := by
  unfold sL
  refine Prod.ext rfl (Prod.ext (funext fun a => ?_) rfl)
  show (if a = i then u else if a = i then v else σ.2.1 a) = if a = i then u else σ.2.1 a
  split <;> rfl
theorem mo_draws {σ : sg} {x : aW} {α : aS} (h : MInv σ α) (ok : aOK α) (n : Int32) (seed : Int64) : Mt mX11_draws 3 0 0 [.ref i_M, .int n, .long seed] (wd σ x) (MPost σ x (opDraws α n seed).1 (opDraws α n seed).2) := by
  refine Mt.of MI_X11_draws (Nat.le_of_ble_eq_true rfl) (fun X hC hR hT => ?_)
  have hT1 : σ.2.2 i_m_now 36 = nI (tT α).1 := h.2.1.1
  have h1 := M_thr h 0
  have c1 : CEq σ (sG σ i_M 0 0) := (CEq.rf σ).g (Nat.le_refl _)
  -- from 137: what, a, b, v are drawn
  have stA : ∀ (τ : sg) (β : aS) (s i w a b : Nat) (v : Int32), MInv τ β → aOK β → CEq σ τ → ¬ (tT β).1 = 0 → w < 6 → a < 6 → b < 6 → (w = 5 → a < (tT β).1 ∧ b < (tT β).2.1) → sml v →
      (∀ τ2, MInv τ2 (drAct w a b v β).2 → CEq σ τ2 → τ2.2.1 i_M = τ.2.1 i_M → ∀ u6 u7 u8 u9, Rw mX11_draws X 230 [some (.ref i_M), some (.int n), some (.long seed), none, some (.int (nI (s + (drAct w a b v β).1))), some (.int (nI i)), u6, u7, u8, u9] [] (wd τ2 x) 0 0) →
      Rw mX11_draws X 137 [some (.ref i_M), some (.int n), some (.long seed), none, some (.int (nI s)), some (.int (nI i)), some (.int (nI w)), some (.int (nI a)), some (.int (nI b)), some (.int v)] [] (wd τ x) 0 0 := by
    intro τ β s i w a b v hm okβ hce hne hw ha hb h5 hv K
    by_cases w5 : w = 5
    · subst w5
      obtain ⟨ha2, hb2⟩ := h5 rfl
      refine R_iload hC dX11_draws_137 rfl (R_iconst (v := 5) hC dX11_draws_139 (by decide) ?_)
      refine R_icmp_ne hC 164 dX11_draws_140 (by decide) (fun h => absurd rfl h) (fun _ => ?_)
      refine R_aload_n (i := 0) hC dX11_draws_143 rfl rfl (R_gR hC dX11_draws_144 fl_X11_13 L_M rfl (R_bipush (v := 6) hC dX11_draws_147 (by decide) (R_iload hC dX11_draws_149 rfl (R_imul hC dX11_draws_151 (R_iload hC dX11_draws_152 rfl (R_iadd hC dX11_draws_154 (R_aI hC dX11_draws_155 L_m_now (6 * a + b) (n6 a b) (by omega) (by decide) ?_)))))))
      refine R_top (y := (tT β).2.2 a b) (hm.2.1.2.2 a b ha2 hb2) ?_
      refine R_iload hC dX11_draws_156 rfl ?_
      refine R_icmp_ne hC 185 dX11_draws_158 (by decide) (fun h158 => ?_) (fun h158 => ?_)
      · have e : drAct 5 a b v β = (1, pushT β (tset (tT β) a b v)) := by unfold drAct; rw [if_pos rfl, if_neg h158]
        rw [e] at K
        refine R_aload_n (i := 0) hC dX11_draws_185 rfl rfl ?_
        refine R_V0g hC hR dX11_draws_186 MV_X11_remember ml_X11_167 L_M rfl (s_remember hm okβ) (by decide) ⟨by decide, by decide⟩ (Nat.le_of_ble_eq_true rfl) (fun r w1 hq => ?_)
        obtain ⟨rfl, p, g2, rfl, hm3⟩ := hq
        refine R_iload hC dX11_draws_189 rfl (R_iconst (v := 5) hC dX11_draws_191 (by decide) ?_)
        refine R_icmp_ne hC 213 dX11_draws_192 (by decide) (fun h => absurd rfl h) (fun _ => ?_)
        refine R_aload_n (i := 0) hC dX11_draws_195 rfl rfl (R_gR hC dX11_draws_196 fl_X11_13 L_M rfl (R_bipush (v := 6) hC dX11_draws_199 (by decide) (R_iload hC dX11_draws_201 rfl (R_imul hC dX11_draws_203 (R_iload hC dX11_draws_204 rfl (R_iadd hC dX11_draws_206 (R_iload hC dX11_draws_207 rfl ?_)))))))
        refine R_sI hC dX11_draws_209 L_m_now (6 * a + b) (n6 a b) (by omega) (by decide) (R_goto hC 227 dX11_draws_210 (by decide) (R_iinc hC dX11_draws_227 rfl (inc1 _) (by decide) rfl ?_))
        first | exact K _ hm hce rfl _ _ _ _ | exact K _ (hm3.now (TB_tset (hm3.2.1.TB okβ.2.2.1) ha2 hb2 hv).TR) (((hce.g (Nat.le_refl _)).a (by decide)).a (by decide)) rfl _ _ _ _
      · have e : drAct 5 a b v β = (0, β) := by unfold drAct; rw [if_pos rfl, if_pos h158]
        rw [e] at K
        refine R_goto hC 230 dX11_draws_161 (by decide) ?_
        first | exact K _ hm hce rfl _ _ _ _ | exact K _ (hm3.now (TB_tset (hm3.2.1.TB okβ.2.2.1) ha2 hb2 hv).TR) (((hce.g (Nat.le_refl _)).a (by decide)).a (by decide)) rfl _ _ _ _
    · have n5 : ¬ nI w = (5 : Int32) := nI_ne (b := 5) (by omega) (by decide) w5
      refine R_iload hC dX11_draws_137 rfl (R_iconst (v := 5) hC dX11_draws_139 (by decide) ?_)
      refine R_icmp_ne hC 164 dX11_draws_140 (by decide) (fun _ => ?_) (fun h => absurd h n5)
      refine R_aload_n (i := 0) hC dX11_draws_164 rfl rfl (R_aload_n (i := 0) hC dX11_draws_165 rfl rfl (R_gR hC dX11_draws_166 fl_X11_13 L_M rfl (R_iload hC dX11_draws_169 rfl (R_iload hC dX11_draws_171 rfl (R_iload hC dX11_draws_173 rfl ?_)))))
      refine R_V4g hC hR dX11_draws_175 MV_X11_stops ml_X11_181 L_M rfl (s_stops _ _ _ L_m_now (by decide) (tT β) (hm.2.1.TB okβ.2.2.1) (nI w) (nI a) (nI b)) (by decide) ⟨by decide, by decide⟩ (Nat.le_of_ble_eq_true rfl) (fun r w1 hq => ?_)
      obtain ⟨g, rfl, ⟨k', hk', ek, rfl⟩ | ⟨hk', -⟩⟩ := hq
      case inr => exact absurd (by rw [nI_toInt (by omega)]; omega) hk'
      have ek : w = k' := (nI_eq (by omega) (by omega)).mp ek
      subst ek
      refine R_iconst (v := (-1)) hC dX11_draws_178 (by decide) ?_
      refine R_icmp_eq hC 185 dX11_draws_179 (by decide) (fun h179 => ?_) (fun h179 => ?_)
      · have e : drAct w a b v β = (1, pushT β (doA w a b (tT β))) := by unfold drAct; rw [if_neg w5, if_pos h179]
        rw [e] at K
        refine R_aload_n (i := 0) hC dX11_draws_185 rfl rfl ?_
        refine R_V0g hC hR dX11_draws_186 MV_X11_remember ml_X11_167 L_M rfl (s_remember (hm.a (i := i_m_trial) (f := g) (by decide)) okβ) (by decide) ⟨by decide, by decide⟩ (Nat.le_of_ble_eq_true rfl) (fun r w1 hq => ?_)
        obtain ⟨rfl, p, g2, rfl, hm3⟩ := hq
        refine R_iload hC dX11_draws_189 rfl (R_iconst (v := 5) hC dX11_draws_191 (by decide) ?_)
        refine R_icmp_ne hC 213 dX11_draws_192 (by decide) (fun _ => ?_) (fun h => absurd h n5)
        refine R_aload_n (i := 0) hC dX11_draws_213 rfl rfl (R_aload_n (i := 0) hC dX11_draws_214 rfl rfl (R_gR hC dX11_draws_215 fl_X11_13 L_M rfl (R_iload hC dX11_draws_218 rfl (R_iload hC dX11_draws_220 rfl (R_iload hC dX11_draws_222 rfl ?_)))))
        refine R_V4g hC hR dX11_draws_224 MV_X11_does ml_X11_185 L_M rfl (s_does L_m_now (by decide) (hm3.2.1.TB okβ.2.2.1) okβ.2.2.1 h179) (by decide) ⟨by decide, by decide⟩ (Nat.le_of_ble_eq_true rfl) (fun r w1 hq => ?_)
        obtain ⟨rfl, g3, h3, rfl, hg3⟩ := hq
        rw [nI_clamp (by omega), nI_clamp (by omega)] at hg3
        refine R_iinc hC dX11_draws_227 rfl (inc1 _) (by decide) rfl ?_
        first | exact K _ (hm.a (by decide)) (hce.a (by decide)) rfl _ _ _ _ | exact K _ ((hm3.a (i := i_m_trial) (by decide)).now hg3.TR) (((((hce.a (by decide)).g (Nat.le_refl _)).a (by decide)).a (by decide)).a (by decide)) rfl _ _ _ _
      · have e : drAct w a b v β = (0, β) := by unfold drAct; rw [if_neg w5, if_neg h179]
        rw [e] at K
        refine R_goto hC 230 dX11_draws_182 (by decide) ?_
        first | exact K _ (hm.a (by decide)) (hce.a (by decide)) rfl _ _ _ _ | exact K _ ((hm3.a (i := i_m_trial) (by decide)).now hg3.TR) (((((hce.a (by decide)).g (Nat.le_refl _)).a (by decide)).a (by decide)).a (by decide)) rfl _ _ _ _
  have body : ∀ (τ : sg) (β : aS) (s i : Nat), MInv τ β → aOK β → CEq σ τ → ¬ (tT β).1 = 0 →
      (∀ τ2, MInv τ2 (drAct (wOf (τ.2.1 i_M)) (aOf (τ.2.1 i_M) (tT β)) (bOf (τ.2.1 i_M) (tT β)) (vOf (τ.2.1 i_M)) β).2 → CEq σ τ2 → τ2.2.1 i_M = x4 (τ.2.1 i_M) → ∀ u6 u7 u8 u9, Rw mX11_draws X 230 [some (.ref i_M), some (.int n), some (.long seed), none, some (.int (nI (s + (drAct (wOf (τ.2.1 i_M)) (aOf (τ.2.1 i_M) (tT β)) (bOf (τ.2.1 i_M) (tT β)) (vOf (τ.2.1 i_M)) β).1))), some (.int (nI i)), u6, u7, u8, u9] [] (wd τ2 x) 0 0) →
      ∀ u6 u7 u8 u9, Rw mX11_draws X 46 [some (.ref i_M), some (.int n), some (.long seed), none, some (.int (nI s)), some (.int (nI i)), u6, u7, u8, u9] [] (wd τ x) 0 0 := by
    intro τ β s i hm okβ hce hne K
    obtain ⟨x0, hx0⟩ : ∃ z, z = τ.2.1 i_M := ⟨_, rfl⟩
    rw [← hx0] at K
    obtain ⟨T1, T2, T3, -⟩ := id okβ.2.2.1
    have hw : wOf x0 < 6 := dr_lt _ (by decide)
    have hm1 : 0 < (if wOf x0 = 1 ∨ wOf x0 = 3 then (tT β).2.1 else (tT β).1) ∧ (if wOf x0 = 1 ∨ wOf x0 = 3 then (tT β).2.1 else (tT β).1) ≤ 6 := by split <;> omega
    have ha := dr_lt (x2 x0) hm1.1
    have hm2 : 0 < (if wOf x0 = 2 then (tT β).1 else (tT β).2.1) ∧ (if wOf x0 = 2 then (tT β).1 else (tT β).2.1) ≤ 6 := by split <;> omega
    have hb6 : bOf x0 (tT β) < 6 := by
      unfold bOf
      have := dr_lt (x3 x0) hm2.1
      split
      · decide
      · omega
    have h5 : wOf x0 = 5 → aOf x0 (tT β) < (tT β).1 ∧ bOf x0 (tT β) < (tT β).2.1 := by
      intro e
      constructor
      · unfold aOf; rw [e, if_neg (by decide)]; exact dr_lt _ (by omega)
      · unfold bOf; rw [e, if_neg (by decide), if_neg (by decide)]; exact dr_lt _ (by omega)
    have stE : ∀ u9, Rw mX11_draws X 135 [some (.ref i_M), some (.int n), some (.long seed), none, some (.int (nI s)), some (.int (nI i)), some (.int (nI (wOf x0))), some (.int (nI (aOf x0 (tT β)))), some (.int (nI (bOf x0 (tT β)))), u9] [.int (vOf x0)] (wd (sL τ i_M (x4 x0)) x) 0 0 := by
      intro u9
      refine R_istore hC dX11_draws_135 (by decide) rfl ?_
      exact stA _ β s i _ _ _ _ hm.l okβ (hce.l (Nat.le_refl _)) hne hw (by unfold aOf; omega) hb6 h5 (vOf_sml x0) (fun τ2 z1 z2 z3 => K τ2 z1 z2 (by rw [z3, sL_eq]))
    have stD : ∀ u8 u9, Rw mX11_draws X 116 [some (.ref i_M), some (.int n), some (.long seed), none, some (.int (nI s)), some (.int (nI i)), some (.int (nI (wOf x0))), some (.int (nI (aOf x0 (tT β)))), u8, u9] [.int (nI (bOf x0 (tT β)))] (wd (sL τ i_M (x3 x0)) x) 0 0 := by
      intro u8 u9
      by_cases w5 : wOf x0 = 5
      · refine R_istore hC dX11_draws_116 (by decide) rfl (R_iload hC dX11_draws_118 rfl (R_iconst (v := 5) hC dX11_draws_120 (by decide) ?_))
        refine R_icmp_ne hC 134 dX11_draws_121 (by decide) (fun h => absurd (by rw [w5]; rfl) h) (fun _ => ?_)
        refine R_aload_n (i := 0) hC dX11_draws_124 rfl rfl (R_iconst (v := 3) hC dX11_draws_125 (by decide) ?_)
        refine R_V1i hC hR dX11_draws_126 MV_X11_draw ml_X11_346 L_M rfl (s_draw _ _ 3 (by decide) (by decide)) (by decide) ⟨by decide, by decide⟩ (Nat.le_of_ble_eq_true rfl) ?_
        refine R_wd (τ := sL τ i_M (x4 x0)) (by rw [sL_eq, sL_sL]; unfold x4; rw [if_pos w5]) ?_
        rw [sL_eq]
        refine R_iconst (v := 1) hC dX11_draws_129 (by decide) (R_isub hC dX11_draws_130 (R_goto hC 135 dX11_draws_131 (by decide) ?_))
        (refine R_top (y := vOf x0) (by unfold vOf x4; rw [if_pos w5, if_pos w5]) ?_; exact stE _)
      · refine R_istore hC dX11_draws_116 (by decide) rfl (R_iload hC dX11_draws_118 rfl (R_iconst (v := 5) hC dX11_draws_120 (by decide) ?_))
        refine R_icmp_ne hC 134 dX11_draws_121 (by decide) (fun _ => ?_) (fun h => absurd h (nI_ne (b := 5) (by omega) (by decide) w5))
        refine R_iconst (v := 0) hC dX11_draws_134 (by decide) ?_
        (refine R_wd (τ := sL τ i_M (x4 x0)) (by unfold x4; rw [if_neg w5]) ?_; refine R_top (y := vOf x0) (by unfold vOf; rw [if_neg w5]) ?_; exact stE _)
    have stC : ∀ u7 u8 u9, Rw mX11_draws X 79 [some (.ref i_M), some (.int n), some (.long seed), none, some (.int (nI s)), some (.int (nI i)), some (.int (nI (wOf x0))), u7, u8, u9] [.int (nI (if wOf x0 = 1 ∨ wOf x0 = 3 then (tT β).2.1 else (tT β).1)), .ref i_M] (wd (sL τ i_M (dx x0)) x) 0 0 := by
      intro u7 u8 u9
      have eR : σ.2.2 i_m_now 36 = σ.2.2 i_m_now 36 := rfl
      by_cases w2 : wOf x0 < 2
      · refine R_V1i hC hR dX11_draws_79 MV_X11_draw ml_X11_346 L_M rfl (s_draw _ _ _ hm1.1 (by omega)) (by decide) ⟨by decide, by decide⟩ (Nat.le_of_ble_eq_true rfl) ?_
        refine R_wd (τ := sL τ i_M (x3 x0)) (by rw [sL_eq, sL_sL]; unfold x3; rw [if_pos w2]; rfl) ?_
        refine R_top (y := nI (aOf x0 (tT β))) (by rw [sL_eq]; rfl) ?_
        refine R_istore hC dX11_draws_82 (by decide) rfl (R_iload hC dX11_draws_84 rfl (R_iconst (v := 2) hC dX11_draws_86 (by decide) ?_))
        refine R_icmp_ge hC 94 dX11_draws_87 (by decide) (fun h => absurd h (nI_ge (b := 2) w2 (by decide))) (fun _ => ?_)
        refine R_iconst (v := 0) hC dX11_draws_90 (by decide) (R_goto hC 116 dX11_draws_91 (by decide) ?_)
        (refine R_top (y := nI (bOf x0 (tT β))) (by unfold bOf; rw [if_pos w2]; rfl) ?_; exact stD _ _)
      · refine R_V1i hC hR dX11_draws_79 MV_X11_draw ml_X11_346 L_M rfl (s_draw _ _ _ hm1.1 (by omega)) (by decide) ⟨by decide, by decide⟩ (Nat.le_of_ble_eq_true rfl) ?_
        refine R_wd (τ := sL τ i_M (x2 x0)) (by rw [sL_eq, sL_sL]; rfl) ?_
        refine R_top (y := nI (aOf x0 (tT β))) (by rw [sL_eq]; rfl) ?_
        refine R_istore hC dX11_draws_82 (by decide) rfl (R_iload hC dX11_draws_84 rfl (R_iconst (v := 2) hC dX11_draws_86 (by decide) ?_))
        refine R_icmp_ge hC 94 dX11_draws_87 (by decide) (fun _ => ?_) (fun h => absurd (nI_le (a := 2) (by omega) (by omega)) h)
        refine R_aload_n (i := 0) hC dX11_draws_94 rfl rfl (R_aload_n (i := 0) hC dX11_draws_95 rfl rfl (R_gR hC dX11_draws_96 fl_X11_13 L_M rfl (R_iload hC dX11_draws_99 rfl (R_iconst (v := 2) hC dX11_draws_101 (by decide) ?_))))
        refine R_icmp_ne hC 110 dX11_draws_102 (by decide) (fun h102 => ?_) (fun h102 => ?_)
        · refine R_bipush (v := 37) hC dX11_draws_110 (by decide) (R_aI hC dX11_draws_112 L_m_now 37 rfl (by decide) (by decide) ?_)
          refine R_top (y := nI (if wOf x0 = 2 then (tT β).1 else (tT β).2.1)) (by first | (rw [if_pos ((nI_eq (b := 2) (by omega) (by decide)).mp h102)]; exact hm.2.1.1) | (rw [if_neg (fun z => h102 (by rw [z]; rfl))]; exact hm.2.1.2.1)) ?_
          refine R_V1i hC hR dX11_draws_113 MV_X11_draw ml_X11_346 L_M rfl (s_draw _ _ _ hm2.1 (by omega)) (by decide) ⟨by decide, by decide⟩ (Nat.le_of_ble_eq_true rfl) ?_
          refine R_wd (τ := sL τ i_M (x3 x0)) (by rw [sL_eq, sL_sL]; unfold x3; rw [if_neg w2]) ?_
          refine R_top (y := nI (bOf x0 (tT β))) (by rw [sL_eq]; unfold bOf x3; rw [if_neg w2, if_neg w2]) ?_
          exact stD _ _
        · refine R_bipush (v := 36) hC dX11_draws_105 (by decide) (R_goto hC 112 dX11_draws_107 (by decide) (R_aI hC dX11_draws_112 L_m_now 36 rfl (by decide) (by decide) ?_))
          refine R_top (y := nI (if wOf x0 = 2 then (tT β).1 else (tT β).2.1)) (by first | (rw [if_pos ((nI_eq (b := 2) (by omega) (by decide)).mp h102)]; exact hm.2.1.1) | (rw [if_neg (fun z => h102 (by rw [z]; rfl))]; exact hm.2.1.2.1)) ?_
          refine R_V1i hC hR dX11_draws_113 MV_X11_draw ml_X11_346 L_M rfl (s_draw _ _ _ hm2.1 (by omega)) (by decide) ⟨by decide, by decide⟩ (Nat.le_of_ble_eq_true rfl) ?_
          refine R_wd (τ := sL τ i_M (x3 x0)) (by rw [sL_eq, sL_sL]; unfold x3; rw [if_neg w2]) ?_
          refine R_top (y := nI (bOf x0 (tT β))) (by rw [sL_eq]; unfold bOf x3; rw [if_neg w2, if_neg w2]) ?_
          exact stD _ _
    intro u6 u7 u8 u9
    refine R_aload_n (i := 0) hC dX11_draws_46 rfl rfl (R_bipush (v := 6) hC dX11_draws_47 (by decide) ?_)
    refine R_V1i hC hR dX11_draws_49 MV_X11_draw ml_X11_346 L_M rfl (s_draw _ _ 6 (by decide) (by decide)) (by decide) ⟨by decide, by decide⟩ (Nat.le_of_ble_eq_true rfl) ?_
    rw [← hx0]
    refine R_istore hC dX11_draws_52 (by decide) rfl (R_aload_n (i := 0) hC dX11_draws_54 rfl rfl (R_aload_n (i := 0) hC dX11_draws_55 rfl rfl (R_gR hC dX11_draws_56 fl_X11_13 L_M rfl (R_iload hC dX11_draws_59 rfl (R_iconst (v := 1) hC dX11_draws_61 (by decide) ?_)))))
    refine R_icmp_eq hC 71 dX11_draws_62 (by decide) (fun h62 => ?_) (fun h62 => ?_)
    · refine R_bipush (v := 37) hC dX11_draws_71 (by decide) (R_goto hC 78 dX11_draws_73 (by decide) (R_aI hC dX11_draws_78 L_m_now 37 rfl (by decide) (by decide) ?_))
      (refine R_top (y := nI (if wOf x0 = 1 ∨ wOf x0 = 3 then (tT β).2.1 else (tT β).1)) ?_ ?_; (first | (rw [if_pos (Or.inl ((nI_eq (a := wOf x0) (b := 1) (by omega) (by decide)).mp h62))]; exact hm.2.1.2.1) | (rw [if_neg (fun z => z.elim (fun z => h62 (by show nI (wOf x0) = 1; rw [z]; rfl)) (fun z => h68 (by show nI (wOf x0) = 3; rw [z]; rfl)))]; exact hm.2.1.1) | (rw [if_pos (Or.inr ((nI_eq (a := wOf x0) (b := 3) (by omega) (by decide)).mp h68))]; exact hm.2.1.2.1)); exact stC _ _ _)
    · refine R_iload hC dX11_draws_65 rfl (R_iconst (v := 3) hC dX11_draws_67 (by decide) ?_)
      refine R_icmp_ne hC 76 dX11_draws_68 (by decide) (fun h68 => ?_) (fun h68 => ?_)
      · refine R_bipush (v := 36) hC dX11_draws_76 (by decide) (R_aI hC dX11_draws_78 L_m_now 36 rfl (by decide) (by decide) ?_)
        (refine R_top (y := nI (if wOf x0 = 1 ∨ wOf x0 = 3 then (tT β).2.1 else (tT β).1)) ?_ ?_; (first | (rw [if_pos (Or.inl ((nI_eq (a := wOf x0) (b := 1) (by omega) (by decide)).mp h62))]; exact hm.2.1.2.1) | (rw [if_neg (fun z => z.elim (fun z => h62 (by show nI (wOf x0) = 1; rw [z]; rfl)) (fun z => h68 (by show nI (wOf x0) = 3; rw [z]; rfl)))]; exact hm.2.1.1) | (rw [if_pos (Or.inr ((nI_eq (a := wOf x0) (b := 3) (by omega) (by decide)).mp h68))]; exact hm.2.1.2.1)); exact stC _ _ _)
      · refine R_bipush (v := 37) hC dX11_draws_71 (by decide) (R_goto hC 78 dX11_draws_73 (by decide) (R_aI hC dX11_draws_78 L_m_now 37 rfl (by decide) (by decide) ?_))
        (refine R_top (y := nI (if wOf x0 = 1 ∨ wOf x0 = 3 then (tT β).2.1 else (tT β).1)) ?_ ?_; (first | (rw [if_pos (Or.inl ((nI_eq (a := wOf x0) (b := 1) (by omega) (by decide)).mp h62))]; exact hm.2.1.2.1) | (rw [if_neg (fun z => z.elim (fun z => h62 (by show nI (wOf x0) = 1; rw [z]; rfl)) (fun z => h68 (by show nI (wOf x0) = 3; rw [z]; rfl)))]; exact hm.2.1.1) | (rw [if_pos (Or.inr ((nI_eq (a := wOf x0) (b := 3) (by omega) (by decide)).mp h68))]; exact hm.2.1.2.1)); exact stC _ _ _)
  have loop : ∀ N, n = nI N → N ≤ 30 → opDraws α n seed = (nI (drwN N seed α).1, (drwN N seed α).2) → ∀ f i τ β s, i + f = N → MInv τ β → aOK β → CEq σ τ → ¬ (tT β).1 = 0 → (drwN N seed α).1 = s + (drwN f (τ.2.1 i_M) β).1 → (drwN N seed α).2 = (drwN f (τ.2.1 i_M) β).2 → ∀ u6 u7 u8 u9, Rw mX11_draws X 40 [some (.ref i_M), some (.int n), some (.long seed), none, some (.int (nI s)), some (.int (nI i)), u6, u7, u8, u9] [] (wd τ x) 0 0 := by
    intro N eN hN eo f
    induction f with
    | zero =>
      intro i τ β s hf hm okβ hce hne e1 e2 u6 u7 u8 u9
      refine R_iload hC dX11_draws_40 rfl (R_iload_n (i := 1) hC dX11_draws_42 rfl rfl ?_)
      refine R_icmp_ge hC 236 dX11_draws_43 (by decide) (fun _ => ?_) (fun h => absurd (by rw [eN]; exact nI_le (by omega) (by omega)) h)
      refine R_iload hC dX11_draws_236 rfl ?_
      exact R_iret hC hT dX11_draws_238 rfl (by
      have q1 : (drwN N seed α).1 = s := e1
      have q2 : (drwN N seed α).2 = β := e2
      rw [eo, q1, q2]; exact MPost.i hm hce)
    -- next
    | succ f ih =>
      intro i τ β s hf hm okβ hce hne e1 e2 u6 u7 u8 u9
      have K : ∀ τ2, MInv τ2 (drAct (wOf (τ.2.1 i_M)) (aOf (τ.2.1 i_M) (tT β)) (bOf (τ.2.1 i_M) (tT β)) (vOf (τ.2.1 i_M)) β).2 → CEq σ τ2 → τ2.2.1 i_M = x4 (τ.2.1 i_M) → ∀ u6 u7 u8 u9, Rw mX11_draws X 230 [some (.ref i_M), some (.int n), some (.long seed), none, some (.int (nI (s + (drAct (wOf (τ.2.1 i_M)) (aOf (τ.2.1 i_M) (tT β)) (bOf (τ.2.1 i_M) (tT β)) (vOf (τ.2.1 i_M)) β).1))), some (.int (nI i)), u6, u7, u8, u9] [] (wd τ2 x) 0 0 := by
        intro τ2 z1 z2 z3 v6 v7 v8 v9
        have hm1 : 0 < (if wOf (τ.2.1 i_M) = 1 ∨ wOf (τ.2.1 i_M) = 3 then (tT β).2.1 else (tT β).1) ∧ (if wOf (τ.2.1 i_M) = 1 ∨ wOf (τ.2.1 i_M) = 3 then (tT β).2.1 else (tT β).1) ≤ 6 := by have := okβ.2.2.1; have o1 := this.1; have o2 := this.2.1; have o3 := this.2.2.1; split <;> omega
        have hm2 : 0 < (if wOf (τ.2.1 i_M) = 2 then (tT β).1 else (tT β).2.1) ∧ (if wOf (τ.2.1 i_M) = 2 then (tT β).1 else (tT β).2.1) ≤ 6 := by have := okβ.2.2.1; have o1 := this.1; have o2 := this.2.1; have o3 := this.2.2.1; split <;> omega
        have hA : aOf (τ.2.1 i_M) (tT β) < 2 ^ 31 := by have := dr_lt (x2 (τ.2.1 i_M)) hm1.1; unfold aOf; omega
        have hB : bOf (τ.2.1 i_M) (tT β) < 2 ^ 31 := by
          have := dr_lt (x3 (τ.2.1 i_M)) hm2.1
          unfold bOf
          split
          · decide
          · omega
        obtain ⟨k1, k2⟩ := drAct_ok (a := aOf (τ.2.1 i_M) (tT β)) (b := bOf (τ.2.1 i_M) (tT β)) okβ hne (vOf_sml (τ.2.1 i_M)) (dr_lt (dx (τ.2.1 i_M)) (m := 6) (by decide)) hA hB
        refine R_iinc hC dX11_draws_230 rfl (inc1 _) (by decide) rfl (R_goto hC 40 dX11_draws_233 (by decide) ?_)
        exact ih (i + 1) τ2 _ _ (by omega) z1 k1 z2 k2 (by rw [e1, z3, drwN]; exact (Nat.add_assoc _ _ _).symm) (by rw [e2, z3, drwN]) _ _ _ _
      refine R_iload hC dX11_draws_40 rfl (R_iload_n (i := 1) hC dX11_draws_42 rfl rfl ?_)
      refine R_icmp_ge hC 236 dX11_draws_43 (by decide) (fun h => absurd h (by rw [eN]; exact nI_ge (by omega) (by omega))) (fun _ => ?_)
      exact body τ β s i hm okβ hce hne K _ _ _ _
  refine R_aload_n (i := 0) hC dX11_draws_0 rfl rfl (R_iconst (v := 0) hC dX11_draws_1 (by decide) (R_pI hC dX11_draws_2 fl_X11_83 L_M rfl (R_aload_n (i := 0) hC dX11_draws_5 rfl rfl (R_gR hC dX11_draws_6 fl_X11_13 L_M rfl (R_bipush (v := 36) hC dX11_draws_9 (by decide) (R_aI hC dX11_draws_11 L_m_now 36 rfl (by decide) (by decide) ?_))))))
  refine R_top (y := nI (tT α).1) hT1 ?_
  refine R_if_eq hC 27 dX11_draws_12 (by decide) (fun h12 => ?_) (fun h12 => ?_)
  · refine R_iconst (v := (-1)) hC dX11_draws_27 (by decide) ?_
    exact R_iret hC hT dX11_draws_28 rfl (by
    have e : opDraws α n seed = (-1, α) := by
      unfold opDraws
      rw [if_neg]
      rintro ⟨q1, q2⟩
      first
      | exact q1 ((T0_iff ok).mp h12)
      | exact ite0 h24 q2
    rw [e]; exact MPost.i h1 c1)
  · refine R_iload_n (i := 1) hC dX11_draws_15 rfl rfl (R_i2l hC dX11_draws_16 (R_lconst (v := 1) hC dX11_draws_17 (by decide) (R_ldc2 hC dX11_draws_18 kc_X11_344 ?_)))
    refine R_S3i hC hR dX11_draws_21 MS_X11_isIn ml_X11_140 (s_isInZ n 1 30 1 30 (by decide) (by decide) _) (by decide) ⟨by decide, by decide⟩ (Nat.le_of_ble_eq_true rfl) ?_
    refine R_if_ne hC 29 dX11_draws_24 (by decide) (fun h24 => ?_) (fun h24 => ?_)
    · have hin := ite1 h24
      have n0 : ¬ (tT α).1 = 0 := fun z => h12 ((T0_iff ok).mpr z)
      obtain ⟨N, eN, hN, hN2⟩ := i32_nI (k := n) (by omega)
      refine R_aload_n (i := 0) hC dX11_draws_29 rfl rfl (R_lload_n (i := 2) hC dX11_draws_30 rfl rfl (R_pL hC dX11_draws_31 fl_X11_336 L_M rfl (uL (by decide)) (R_iconst (v := 0) hC dX11_draws_34 (by decide) (R_istore hC dX11_draws_35 (by decide) rfl (R_iconst (v := 0) hC dX11_draws_37 (by decide) (R_istore hC dX11_draws_38 (by decide) rfl ?_))))))
      exact loop N eN (by omega) (by unfold opDraws; rw [if_pos ⟨n0, hin⟩, eN, nI_clamp hN2]) N 0 _ α 0 (by omega) h1.l ok (c1.l (Nat.le_refl _)) n0 (by rw [sL_eq, Nat.zero_add]) (by rw [sL_eq]) _ _ _ _
    · refine R_iconst (v := (-1)) hC dX11_draws_27 (by decide) ?_
      exact R_iret hC hT dX11_draws_28 rfl (by
      have e : opDraws α n seed = (-1, α) := by
        unfold opDraws
        rw [if_neg]
        rintro ⟨q1, q2⟩
        first
        | exact q1 ((T0_iff ok).mp h12)
        | exact ite0 h24 q2
      rw [e]; exact MPost.i h1 c1)
end
section
theorem M_ceq (σ : sg) : CEq σ (sG σ i_M 0 0) := (CEq.rf σ).g (Nat.le_refl _)
noncomputable def opKept (α : aS) (k r c : Int32) : Int32 := by classical exact
  if (inR (tK α).1 k ∧ inR ((tK α).2 k.toNatClampNeg).1 r ∧ inR ((tK α).2 k.toNatClampNeg).2.1 c) then ((tK α).2 k.toNatClampNeg).2.2 r.toNatClampNeg c.toNatClampNeg else -1000000
theorem mo_kept {σ : sg} {x : aW} {α : aS} (h : MInv σ α) (ok : aOK α) (k r c : Int32) : Mt mX11_kept 1 0 0 [.ref i_M, .int k, .int r, .int c] (wd σ x) (MPost σ x (opKept α k r c) α) := by
  refine Mt.of MI_X11_kept (Nat.le_of_ble_eq_true rfl) (fun X hC hR hT => ?_)
  have h1 := M_thr h 0
  have eK : ((sG σ i_M 0 0).1 i_M 12).toInt = (tK α).1 := by rw [sG_nk (by decide), h.2.2.1.1, nI_toInt (by have := ok.2.2.2.1.1; omega)]
  have no : ¬ (inR (tK α).1 k ∧ inR ((tK α).2 k.toNatClampNeg).1 r ∧ inR ((tK α).2 k.toNatClampNeg).2.1 c) → opKept α k r c = -1000000 := fun q => by unfold opKept; rw [if_neg q]
  refine R_aload_n (i := 0) hC dX11_kept_0 rfl rfl (R_iconst (v := 0) hC dX11_kept_1 (by decide) (R_pI hC dX11_kept_2 fl_X11_83 L_M rfl (R_aload_n (i := 0) hC dX11_kept_5 rfl rfl (R_iload_n (i := 1) hC dX11_kept_6 rfl rfl ?_))))
  refine R_V1i hC hR dX11_kept_7 MV_X11_isKept ml_X11_192 L_M rfl (s_isKept _ _ _) (by decide) ⟨by decide, by decide⟩ (Nat.le_of_ble_eq_true rfl) ?_
  rw [eK]
  refine R_if_eq hC 63 dX11_kept_10 (by decide) (fun h10 => ?_) (fun h10 => ?_)
  · refine R_ldc hC dX11_kept_63 kc_X11_133 ?_
    exact R_iret hC hT dX11_kept_65 rfl (by
    first
    | (rw [no (fun z => b2i_0 h10 z.1)]; exact MPost.i h1 (M_ceq σ))
    | (rw [no (fun z => by have := z.2.1.1; simp only [i32_lt, Int32.toInt_zero] at h14; omega)]; exact MPost.i h1 (M_ceq σ))
    | (rw [no (fun z => by have := z.2.1.2; simp only [i32_ge, tR] at h30; omega)]; exact MPost.i h1 (M_ceq σ))
    | (rw [no (fun z => by have := z.2.2.1; simp only [i32_lt, Int32.toInt_zero] at h34; omega)]; exact MPost.i h1 (M_ceq σ))
    | (rw [no (fun z => by have := z.2.2.2; simp only [i32_ge, tC] at h50; omega)]; exact MPost.i h1 (M_ceq σ))
    | (have e : opKept α (nI q) (nI i) (nI j) = ((tK α).2 q).2.2 i j := (by unfold opKept; rw [cq, if_pos ⟨inR_n hq (by omega), i1, i2⟩, nI_clamp hi2, nI_clamp hj2]); rw [e]; have e2 : (sG σ i_M 0 0).2.2 i_m_kept (38 * q + (6 * i + j)) = ((tK α).2 q).2.2 i j := hTR.2.2 i j hi hj; rw [e2]; exact MPost.i h1 (M_ceq σ)))
  · obtain ⟨q, rfl, hq, hq2⟩ := inR_i (n := (tK α).1) (b2i_ne h10)
    have hTR := h.2.2.1.2 q hq
    obtain ⟨⟨o1, o2, -, -⟩, o4⟩ := ok.2.2.2.1.2 q hq
    have b1 := ok.2.2.2.1.1
    have cq : (nI q).toNatClampNeg = q := nI_clamp hq2
    rw [cq] at no
    have eR : σ.2.2 i_m_kept (38 * q + 36) = nI ((tK α).2 q).1 := hTR.1
    have eC : σ.2.2 i_m_kept (38 * q + 37) = nI ((tK α).2 q).2.1 := hTR.2.1
    have tR := nI_toInt (n := ((tK α).2 q).1) (by omega)
    have tC := nI_toInt (n := ((tK α).2 q).2.1) (by omega)
    refine R_iload_n (i := 2) hC dX11_kept_13 rfl rfl ?_
    refine R_if_lt hC 63 dX11_kept_14 (by decide) (fun h14 => ?_) (fun h14 => ?_)
    · refine R_ldc hC dX11_kept_63 kc_X11_133 ?_
      exact R_iret hC hT dX11_kept_65 rfl (by
      first
      | (rw [no (fun z => b2i_0 h10 z.1)]; exact MPost.i h1 (M_ceq σ))
      | (rw [no (fun z => by have := z.2.1.1; simp only [i32_lt, Int32.toInt_zero] at h14; omega)]; exact MPost.i h1 (M_ceq σ))
      | (rw [no (fun z => by have := z.2.1.2; simp only [i32_ge, tR] at h30; omega)]; exact MPost.i h1 (M_ceq σ))
      | (rw [no (fun z => by have := z.2.2.1; simp only [i32_lt, Int32.toInt_zero] at h34; omega)]; exact MPost.i h1 (M_ceq σ))
      | (rw [no (fun z => by have := z.2.2.2; simp only [i32_ge, tC] at h50; omega)]; exact MPost.i h1 (M_ceq σ))
      | (have e : opKept α (nI q) (nI i) (nI j) = ((tK α).2 q).2.2 i j := (by unfold opKept; rw [cq, if_pos ⟨inR_n hq (by omega), i1, i2⟩, nI_clamp hi2, nI_clamp hj2]); rw [e]; have e2 : (sG σ i_M 0 0).2.2 i_m_kept (38 * q + (6 * i + j)) = ((tK α).2 q).2.2 i j := hTR.2.2 i j hi hj; rw [e2]; exact MPost.i h1 (M_ceq σ)))
    · refine R_iload_n (i := 2) hC dX11_kept_17 rfl rfl (R_aload_n (i := 0) hC dX11_kept_18 rfl rfl (R_gR hC dX11_kept_19 fl_X11_23 L_M rfl (R_bipush (v := 38) hC dX11_kept_22 (by decide) (R_iload_n (i := 1) hC dX11_kept_24 rfl rfl (R_imul hC dX11_kept_25 (R_bipush (v := 36) hC dX11_kept_26 (by decide) (R_iadd hC dX11_kept_28 ?_)))))))
      refine R_aI hC dX11_kept_29 L_m_kept (38 * q + 36) (n38 q 36) (by omega) (by decide) ?_
      refine R_top (y := nI ((tK α).2 q).1) eR ?_
      refine R_icmp_ge hC 63 dX11_kept_30 (by decide) (fun h30 => ?_) (fun h30 => ?_)
      · refine R_ldc hC dX11_kept_63 kc_X11_133 ?_
        exact R_iret hC hT dX11_kept_65 rfl (by
        first
        | (rw [no (fun z => b2i_0 h10 z.1)]; exact MPost.i h1 (M_ceq σ))
        | (rw [no (fun z => by have := z.2.1.1; simp only [i32_lt, Int32.toInt_zero] at h14; omega)]; exact MPost.i h1 (M_ceq σ))
        | (rw [no (fun z => by have := z.2.1.2; simp only [i32_ge, tR] at h30; omega)]; exact MPost.i h1 (M_ceq σ))
        | (rw [no (fun z => by have := z.2.2.1; simp only [i32_lt, Int32.toInt_zero] at h34; omega)]; exact MPost.i h1 (M_ceq σ))
        | (rw [no (fun z => by have := z.2.2.2; simp only [i32_ge, tC] at h50; omega)]; exact MPost.i h1 (M_ceq σ))
        | (have e : opKept α (nI q) (nI i) (nI j) = ((tK α).2 q).2.2 i j := (by unfold opKept; rw [cq, if_pos ⟨inR_n hq (by omega), i1, i2⟩, nI_clamp hi2, nI_clamp hj2]); rw [e]; have e2 : (sG σ i_M 0 0).2.2 i_m_kept (38 * q + (6 * i + j)) = ((tK α).2 q).2.2 i j := hTR.2.2 i j hi hj; rw [e2]; exact MPost.i h1 (M_ceq σ)))
      · refine R_iload_n (i := 3) hC dX11_kept_33 rfl rfl ?_
        refine R_if_lt hC 63 dX11_kept_34 (by decide) (fun h34 => ?_) (fun h34 => ?_)
        · refine R_ldc hC dX11_kept_63 kc_X11_133 ?_
          exact R_iret hC hT dX11_kept_65 rfl (by
          first
          | (rw [no (fun z => b2i_0 h10 z.1)]; exact MPost.i h1 (M_ceq σ))
          | (rw [no (fun z => by have := z.2.1.1; simp only [i32_lt, Int32.toInt_zero] at h14; omega)]; exact MPost.i h1 (M_ceq σ))
          | (rw [no (fun z => by have := z.2.1.2; simp only [i32_ge, tR] at h30; omega)]; exact MPost.i h1 (M_ceq σ))
          | (rw [no (fun z => by have := z.2.2.1; simp only [i32_lt, Int32.toInt_zero] at h34; omega)]; exact MPost.i h1 (M_ceq σ))
          | (rw [no (fun z => by have := z.2.2.2; simp only [i32_ge, tC] at h50; omega)]; exact MPost.i h1 (M_ceq σ))
          | (have e : opKept α (nI q) (nI i) (nI j) = ((tK α).2 q).2.2 i j := (by unfold opKept; rw [cq, if_pos ⟨inR_n hq (by omega), i1, i2⟩, nI_clamp hi2, nI_clamp hj2]); rw [e]; have e2 : (sG σ i_M 0 0).2.2 i_m_kept (38 * q + (6 * i + j)) = ((tK α).2 q).2.2 i j := hTR.2.2 i j hi hj; rw [e2]; exact MPost.i h1 (M_ceq σ)))
        · refine R_iload_n (i := 3) hC dX11_kept_37 rfl rfl (R_aload_n (i := 0) hC dX11_kept_38 rfl rfl (R_gR hC dX11_kept_39 fl_X11_23 L_M rfl (R_bipush (v := 38) hC dX11_kept_42 (by decide) (R_iload_n (i := 1) hC dX11_kept_44 rfl rfl (R_imul hC dX11_kept_45 (R_bipush (v := 37) hC dX11_kept_46 (by decide) (R_iadd hC dX11_kept_48 ?_)))))))
          refine R_aI hC dX11_kept_49 L_m_kept (38 * q + 37) (n38 q 37) (by omega) (by decide) ?_
          refine R_top (y := nI ((tK α).2 q).2.1) eC ?_
          refine R_icmp_ge hC 63 dX11_kept_50 (by decide) (fun h50 => ?_) (fun h50 => ?_)
          · refine R_ldc hC dX11_kept_63 kc_X11_133 ?_
            exact R_iret hC hT dX11_kept_65 rfl (by
            first
            | (rw [no (fun z => b2i_0 h10 z.1)]; exact MPost.i h1 (M_ceq σ))
            | (rw [no (fun z => by have := z.2.1.1; simp only [i32_lt, Int32.toInt_zero] at h14; omega)]; exact MPost.i h1 (M_ceq σ))
            | (rw [no (fun z => by have := z.2.1.2; simp only [i32_ge, tR] at h30; omega)]; exact MPost.i h1 (M_ceq σ))
            | (rw [no (fun z => by have := z.2.2.1; simp only [i32_lt, Int32.toInt_zero] at h34; omega)]; exact MPost.i h1 (M_ceq σ))
            | (rw [no (fun z => by have := z.2.2.2; simp only [i32_ge, tC] at h50; omega)]; exact MPost.i h1 (M_ceq σ))
            | (have e : opKept α (nI q) (nI i) (nI j) = ((tK α).2 q).2.2 i j := (by unfold opKept; rw [cq, if_pos ⟨inR_n hq (by omega), i1, i2⟩, nI_clamp hi2, nI_clamp hj2]); rw [e]; have e2 : (sG σ i_M 0 0).2.2 i_m_kept (38 * q + (6 * i + j)) = ((tK α).2 q).2.2 i j := hTR.2.2 i j hi hj; rw [e2]; exact MPost.i h1 (M_ceq σ)))
          · have i1 : inR ((tK α).2 q).1 r := ⟨by simp only [i32_lt, Int32.toInt_zero] at h14; omega, by simp only [i32_ge, tR] at h30; omega⟩
            have i2 : inR ((tK α).2 q).2.1 c := ⟨by simp only [i32_lt, Int32.toInt_zero] at h34; omega, by simp only [i32_ge, tC] at h50; omega⟩
            obtain ⟨i, rfl, hi, hi2⟩ := inR_i i1
            obtain ⟨j, rfl, hj, hj2⟩ := inR_i i2
            refine R_aload_n (i := 0) hC dX11_kept_53 rfl rfl (R_iload_n (i := 1) hC dX11_kept_54 rfl rfl (R_iload_n (i := 2) hC dX11_kept_55 rfl rfl (R_iload_n (i := 3) hC dX11_kept_56 rfl rfl ?_)))
            refine R_V3i hC hR dX11_kept_57 MV_X11_keptAt ml_X11_196 L_M rfl (s_keptAt _ _ q i j (by omega) (by omega)) (by decide) ⟨by decide, by decide⟩ (Nat.le_of_ble_eq_true rfl) ?_
            refine R_goto hC 65 dX11_kept_60 (by decide) ?_
            exact R_iret hC hT dX11_kept_65 rfl (by
            first
            | (rw [no (fun z => b2i_0 h10 z.1)]; exact MPost.i h1 (M_ceq σ))
            | (rw [no (fun z => by have := z.2.1.1; simp only [i32_lt, Int32.toInt_zero] at h14; omega)]; exact MPost.i h1 (M_ceq σ))
            | (rw [no (fun z => by have := z.2.1.2; simp only [i32_ge, tR] at h30; omega)]; exact MPost.i h1 (M_ceq σ))
            | (rw [no (fun z => by have := z.2.2.1; simp only [i32_lt, Int32.toInt_zero] at h34; omega)]; exact MPost.i h1 (M_ceq σ))
            | (rw [no (fun z => by have := z.2.2.2; simp only [i32_ge, tC] at h50; omega)]; exact MPost.i h1 (M_ceq σ))
            | (have e : opKept α (nI q) (nI i) (nI j) = ((tK α).2 q).2.2 i j := (by unfold opKept; rw [cq, if_pos ⟨inR_n hq (by omega), i1, i2⟩, nI_clamp hi2, nI_clamp hj2]); rw [e]; have e2 : (sG σ i_M 0 0).2.2 i_m_kept (38 * q + (6 * i + j)) = ((tK α).2 q).2.2 i j := hTR.2.2 i j hi hj; rw [e2]; exact MPost.i h1 (M_ceq σ)))
noncomputable def opStep (α : aS) (k i w : Int32) : Int32 := by classical exact
  if (inR (tS α).1 k ∧ inR ((tS α).2 k.toNatClampNeg).1 i ∧ inR 4 w) then ((tS α).2 k.toNatClampNeg).2 i.toNatClampNeg w.toNatClampNeg else -1000000
theorem mo_step {σ : sg} {x : aW} {α : aS} (h : MInv σ α) (ok : aOK α) (k i w : Int32) : Mt mX11_step 1 0 0 [.ref i_M, .int k, .int i, .int w] (wd σ x) (MPost σ x (opStep α k i w) α) := by
  refine Mt.of MI_X11_step (Nat.le_of_ble_eq_true rfl) (fun X hC hR hT => ?_)
  have h1 := M_thr h 0
  have eS : ((sG σ i_M 0 0).1 i_M 13).toInt = (tS α).1 := by rw [sG_nk (by decide), h.2.2.2.1.1, nI_toInt (by have := ok.2.2.2.2.1.1; omega)]
  have no : ¬ (inR (tS α).1 k ∧ inR ((tS α).2 k.toNatClampNeg).1 i ∧ inR 4 w) → opStep α k i w = -1000000 := fun q => by unfold opStep; rw [if_neg q]
  refine R_aload_n (i := 0) hC dX11_step_0 rfl rfl (R_iconst (v := 0) hC dX11_step_1 (by decide) (R_pI hC dX11_step_2 fl_X11_83 L_M rfl (R_aload_n (i := 0) hC dX11_step_5 rfl rfl (R_iload_n (i := 1) hC dX11_step_6 rfl rfl ?_))))
  refine R_V1i hC hR dX11_step_7 MV_X11_isPlan ml_X11_325 L_M rfl (s_isPlan _ _ _) (by decide) ⟨by decide, by decide⟩ (Nat.le_of_ble_eq_true rfl) ?_
  rw [eS]
  refine R_if_eq hC 61 dX11_step_10 (by decide) (fun h10 => ?_) (fun h10 => ?_)
  · refine R_ldc hC dX11_step_61 kc_X11_133 ?_
    exact R_iret hC hT dX11_step_63 rfl (by
    first
    | (rw [no (fun z => b2i_0 h10 z.1)]; exact MPost.i h1 (M_ceq σ))
    | (rw [no (fun z => ite0 h28 ⟨z.2.1.1, by have := z.2.1.2; omega⟩)]; exact MPost.i h1 (M_ceq σ))
    | (rw [no (fun z => ite0 h40 ⟨z.2.2.1, by have := z.2.2.2; omega⟩)]; exact MPost.i h1 (M_ceq σ))
    | (have e : opStep α (nI q) (nI a) (nI c) = ((tS α).2 q).2 a c := (by unfold opStep; rw [cq, if_pos ⟨inR_n hq (by omega), ⟨j1.1, by omega⟩, ⟨j2.1, by omega⟩⟩, nI_clamp ha2, nI_clamp hc2]); rw [e]; have e2 : (sG σ i_M 0 0).2.2 i_m_plan (4 * (12 * q + a) + c) = ((tS α).2 q).2 a c := (h.2.2.2.1.2 q hq).2 a c (by omega) (by omega); rw [e2]; exact MPost.i h1 (M_ceq σ)))
  · obtain ⟨q, rfl, hq, hq2⟩ := inR_i (n := (tS α).1) (b2i_ne h10)
    have b1 := ok.2.2.2.2.1.1
    obtain ⟨b2, b3, b4⟩ := ok.2.2.2.2.1.2 q hq
    have cq : (nI q).toNatClampNeg = q := nI_clamp hq2
    rw [cq] at no
    have hpl : σ.2.2 i_m_planLong q = nI ((tS α).2 q).1 := (h.2.2.2.1.2 q hq).1
    refine R_iload_n (i := 2) hC dX11_step_13 rfl rfl (R_i2l hC dX11_step_14 (R_lconst (v := 0) hC dX11_step_15 (by decide) (R_aload_n (i := 0) hC dX11_step_16 rfl rfl (R_gR hC dX11_step_17 fl_X11_29 L_M rfl (R_iload_n (i := 1) hC dX11_step_20 rfl rfl (R_aI hC dX11_step_21 L_m_planLong q rfl (by omega) (by decide) ?_))))))
    refine R_top (y := nI ((tS α).2 q).1) hpl ?_
    refine R_iconst (v := 1) hC dX11_step_22 (by decide) (R_isub hC dX11_step_23 ?_)
    refine R_top (y := nI (((tS α).2 q).1 - 1)) (nI_dec (by omega)) ?_
    refine R_i2l hC dX11_step_24 ?_
    refine R_S3i hC hR dX11_step_25 MS_X11_isIn ml_X11_140 (s_isInZ i 0 _ 0 (((tS α).2 q).1 - 1 : Nat) (by decide) (by rw [Int32.toInt_toInt64, nI_toInt (by omega)]) _) (by decide) ⟨by decide, by decide⟩ (Nat.le_of_ble_eq_true rfl) ?_
    refine R_if_eq hC 61 dX11_step_28 (by decide) (fun h28 => ?_) (fun h28 => ?_)
    · refine R_ldc hC dX11_step_61 kc_X11_133 ?_
      exact R_iret hC hT dX11_step_63 rfl (by
      first
      | (rw [no (fun z => b2i_0 h10 z.1)]; exact MPost.i h1 (M_ceq σ))
      | (rw [no (fun z => ite0 h28 ⟨z.2.1.1, by have := z.2.1.2; omega⟩)]; exact MPost.i h1 (M_ceq σ))
      | (rw [no (fun z => ite0 h40 ⟨z.2.2.1, by have := z.2.2.2; omega⟩)]; exact MPost.i h1 (M_ceq σ))
      | (have e : opStep α (nI q) (nI a) (nI c) = ((tS α).2 q).2 a c := (by unfold opStep; rw [cq, if_pos ⟨inR_n hq (by omega), ⟨j1.1, by omega⟩, ⟨j2.1, by omega⟩⟩, nI_clamp ha2, nI_clamp hc2]); rw [e]; have e2 : (sG σ i_M 0 0).2.2 i_m_plan (4 * (12 * q + a) + c) = ((tS α).2 q).2 a c := (h.2.2.2.1.2 q hq).2 a c (by omega) (by omega); rw [e2]; exact MPost.i h1 (M_ceq σ)))
    · refine R_iload_n (i := 3) hC dX11_step_31 rfl rfl (R_i2l hC dX11_step_32 (R_lconst (v := 0) hC dX11_step_33 (by decide) (R_ldc2 hC dX11_step_34 kc_X11_231 ?_)))
      refine R_S3i hC hR dX11_step_37 MS_X11_isIn ml_X11_140 (s_isInZ w 0 3 0 3 (by decide) (by decide) _) (by decide) ⟨by decide, by decide⟩ (Nat.le_of_ble_eq_true rfl) ?_
      refine R_if_eq hC 61 dX11_step_40 (by decide) (fun h40 => ?_) (fun h40 => ?_)
      · refine R_ldc hC dX11_step_61 kc_X11_133 ?_
        exact R_iret hC hT dX11_step_63 rfl (by
        first
        | (rw [no (fun z => b2i_0 h10 z.1)]; exact MPost.i h1 (M_ceq σ))
        | (rw [no (fun z => ite0 h28 ⟨z.2.1.1, by have := z.2.1.2; omega⟩)]; exact MPost.i h1 (M_ceq σ))
        | (rw [no (fun z => ite0 h40 ⟨z.2.2.1, by have := z.2.2.2; omega⟩)]; exact MPost.i h1 (M_ceq σ))
        | (have e : opStep α (nI q) (nI a) (nI c) = ((tS α).2 q).2 a c := (by unfold opStep; rw [cq, if_pos ⟨inR_n hq (by omega), ⟨j1.1, by omega⟩, ⟨j2.1, by omega⟩⟩, nI_clamp ha2, nI_clamp hc2]); rw [e]; have e2 : (sG σ i_M 0 0).2.2 i_m_plan (4 * (12 * q + a) + c) = ((tS α).2 q).2 a c := (h.2.2.2.1.2 q hq).2 a c (by omega) (by omega); rw [e2]; exact MPost.i h1 (M_ceq σ)))
      · have j1 := ite1 h28
        have j2 := ite1 h40
        obtain ⟨a, rfl, ha, ha2⟩ := i32_nI j1.1
        obtain ⟨c, rfl, hc, hc2⟩ := i32_nI j2.1
        refine R_aload_n (i := 0) hC dX11_step_43 rfl rfl (R_gR hC dX11_step_44 fl_X11_26 L_M rfl (R_iconst (v := 4) hC dX11_step_47 (by decide) (R_bipush (v := 12) hC dX11_step_48 (by decide) (R_iload_n (i := 1) hC dX11_step_50 rfl rfl (R_imul hC dX11_step_51 (R_iload_n (i := 2) hC dX11_step_52 rfl rfl (R_iadd hC dX11_step_53 ?_)))))))
        refine R_imul hC dX11_step_54 (R_iload_n (i := 3) hC dX11_step_55 rfl rfl (R_iadd hC dX11_step_56 (R_aI hC dX11_step_57 L_m_plan (4 * (12 * q + a) + c) (by rw [n412, nI_add]) (by omega) (by decide) (R_goto hC 63 dX11_step_58 (by decide) ?_))))
        exact R_iret hC hT dX11_step_63 rfl (by
        first
        | (rw [no (fun z => b2i_0 h10 z.1)]; exact MPost.i h1 (M_ceq σ))
        | (rw [no (fun z => ite0 h28 ⟨z.2.1.1, by have := z.2.1.2; omega⟩)]; exact MPost.i h1 (M_ceq σ))
        | (rw [no (fun z => ite0 h40 ⟨z.2.2.1, by have := z.2.2.2; omega⟩)]; exact MPost.i h1 (M_ceq σ))
        | (have e : opStep α (nI q) (nI a) (nI c) = ((tS α).2 q).2 a c := (by unfold opStep; rw [cq, if_pos ⟨inR_n hq (by omega), ⟨j1.1, by omega⟩, ⟨j2.1, by omega⟩⟩, nI_clamp ha2, nI_clamp hc2]); rw [e]; have e2 : (sG σ i_M 0 0).2.2 i_m_plan (4 * (12 * q + a) + c) = ((tS α).2 q).2 a c := (h.2.2.2.1.2 q hq).2 a c (by omega) (by omega); rw [e2]; exact MPost.i h1 (M_ceq σ)))
/-- how many of the first n places, by rows, are not 0 -/
noncomputable def cntT (T : tb) : Nat → Nat
  | 0 => 0
  | n + 1 => by classical exact cntT T n + (if (n / 6 < T.1 ∧ n % 6 < T.2.1 ∧ ¬ T.2.2 (n / 6) (n % 6) = 0) then 1 else 0)
noncomputable def opCount (α : aS) (w : Int32) : Int32 :=
  if w = 0 then nI (tT α).1 else if w = 1 then nI (tT α).2.1 else if w = 2 then nI (tK α).1 else if w = 3 then nI (tS α).1 else if w = 4 then nI (tp α).1 else if w = 5 then nI (tP α).1 else if w = 6 then nI (cntT (tT α) 36) else -1000000
theorem sw7 {x : Int32} (h1 : 0 ≤ x.toInt) (h2 : x.toInt ≤ 6) : x = nI 0 ∨ x = nI 1 ∨ x = nI 2 ∨ x = nI 3 ∨ x = nI 4 ∨ x = nI 5 ∨ x = nI 6 := by
  obtain ⟨j, rfl, hj, -⟩ := i32_nI h1
  rcases (by omega : j = 0 ∨ j = 1 ∨ j = 2 ∨ j = 3 ∨ j = 4 ∨ j = 5 ∨ j = 6) with rfl | rfl | rfl | rfl | rfl | rfl | rfl <;> simp
theorem mo_count {σ : sg} {x : aW} {α : aS} (h : MInv σ α) (ok : aOK α) (w : Int32) : Mt mX11_count 1 0 0 [.ref i_M, .int w] (wd σ x) (MPost σ x (opCount α w) α) := by
  refine Mt.of MI_X11_count (Nat.le_of_ble_eq_true rfl) (fun X hC hR hT => ?_)
  have h1 := M_thr h 0
  have hTB : TB (σ.2.2 i_m_now) (tT α) := h.2.1.TB ok.2.2.1
  obtain ⟨o1, o2, -, -⟩ := ok.2.2.1
  have fin : ∀ v, v = opCount α w → MPost σ x (opCount α w) α (some (.int v)) (wd (sG σ i_M 0 0) x) := fun v e => by rw [e]; exact MPost.i h1 (M_ceq σ)
  have sw : ∀ u3, Rw mX11_count X 57 [some (.ref i_M), some (.int w), some (.int (nI (cntT (tT α) 36))), u3] [] (wd (sG σ i_M 0 0) x) 0 0 := by
    intro u3
    by_cases hw : 0 ≤ w.toInt ∧ w.toInt ≤ 6
    · rcases sw7 hw.1 hw.2 with rfl | rfl | rfl | rfl | rfl | rfl | rfl
      · refine R_iload_n (i := 1) hC dX11_count_57 rfl rfl ?_
        refine R_tableIn hC 100 dX11_count_58 (by decide) (by decide) rfl (by decide) ?_
        refine R_aload_n (i := 0) hC dX11_count_100 rfl rfl (R_gR hC dX11_count_101 fl_X11_13 L_M rfl (R_bipush (v := 36) hC dX11_count_104 (by decide) (R_aI hC dX11_count_106 L_m_now 36 rfl (by decide) (by decide) ?_)))
        exact R_iret hC hT dX11_count_107 rfl (fin _ h.2.1.1)
      · refine R_iload_n (i := 1) hC dX11_count_57 rfl rfl ?_
        refine R_tableIn hC 108 dX11_count_58 (by decide) (by decide) rfl (by decide) ?_
        refine R_aload_n (i := 0) hC dX11_count_108 rfl rfl (R_gR hC dX11_count_109 fl_X11_13 L_M rfl (R_bipush (v := 37) hC dX11_count_112 (by decide) (R_aI hC dX11_count_114 L_m_now 37 rfl (by decide) (by decide) ?_)))
        exact R_iret hC hT dX11_count_115 rfl (fin _ h.2.1.2.1)
      · refine R_iload_n (i := 1) hC dX11_count_57 rfl rfl ?_
        refine R_tableIn hC 116 dX11_count_58 (by decide) (by decide) rfl (by decide) ?_
        refine R_aload_n (i := 0) hC dX11_count_116 rfl rfl (R_gI hC dX11_count_117 fl_X11_189 L_M rfl ?_)
        exact R_iret hC hT dX11_count_120 rfl (fin _ (by rw [sG_nk (by decide)]; exact h.2.2.1.1))
      · refine R_iload_n (i := 1) hC dX11_count_57 rfl rfl ?_
        refine R_tableIn hC 121 dX11_count_58 (by decide) (by decide) rfl (by decide) ?_
        refine R_aload_n (i := 0) hC dX11_count_121 rfl rfl (R_gI hC dX11_count_122 fl_X11_150 L_M rfl ?_)
        exact R_iret hC hT dX11_count_125 rfl (fin _ (by rw [sG_nk (by decide)]; exact h.2.2.2.1.1))
      · refine R_iload_n (i := 1) hC dX11_count_57 rfl rfl ?_
        refine R_tableIn hC 126 dX11_count_58 (by decide) (by decide) rfl (by decide) ?_
        refine R_aload_n (i := 0) hC dX11_count_126 rfl rfl (R_gI hC dX11_count_127 fl_X11_87 L_M rfl ?_)
        exact R_iret hC hT dX11_count_130 rfl (fin _ (by rw [sG_nk (by decide)]; exact h.1.1))
      · refine R_iload_n (i := 1) hC dX11_count_57 rfl rfl ?_
        refine R_tableIn hC 131 dX11_count_58 (by decide) (by decide) rfl (by decide) ?_
        refine R_aload_n (i := 0) hC dX11_count_131 rfl rfl (R_gI hC dX11_count_132 fl_X11_155 L_M rfl ?_)
        exact R_iret hC hT dX11_count_135 rfl (fin _ (by rw [sG_nk (by decide)]; exact h.2.2.2.2.1.1))
      · refine R_iload_n (i := 1) hC dX11_count_57 rfl rfl ?_
        refine R_tableIn hC 136 dX11_count_58 (by decide) (by decide) rfl (by decide) ?_
        refine R_iload_n (i := 2) hC dX11_count_136 rfl rfl ?_
        exact R_iret hC hT dX11_count_137 rfl (fin _ rfl)
    · refine R_iload_n (i := 1) hC dX11_count_57 rfl rfl ?_
      refine R_tableOut hC 138 dX11_count_58 (by omega) (by decide) ?_
      refine R_ldc hC dX11_count_138 kc_X11_133 ?_
      exact R_iret hC hT dX11_count_140 rfl (fin _ (by
      have n : ∀ j : Nat, j ≤ 6 → ¬ w = nI j := fun j hj e => hw (by rw [e, nI_toInt (by omega)]; omega)
      unfold opCount
      rw [if_neg (show ¬ w = 0 from n 0 (by decide)), if_neg (show ¬ w = 1 from n 1 (by decide)), if_neg (show ¬ w = 2 from n 2 (by decide)), if_neg (show ¬ w = 3 from n 3 (by decide)), if_neg (show ¬ w = 4 from n 4 (by decide)), if_neg (show ¬ w = 5 from n 5 (by decide)), if_neg (show ¬ w = 6 from n 6 (by decide))]))
  have loop : ∀ n, n ≤ 36 → Rw mX11_count X 9 [some (.ref i_M), some (.int w), some (.int (nI (cntT (tT α) n))), some (.int (nI n))] [] (wd (sG σ i_M 0 0) x) 0 0 := by
    refine up_loop 36 ?_ ?_
    · refine R_iload_n (i := 3) hC dX11_count_9 rfl rfl (R_bipush (v := 36) hC dX11_count_10 (by decide) ?_)
      refine R_icmp_ge hC 57 dX11_count_12 (by decide) (fun _ => ?_) (fun h => absurd (by decide) h)
      exact sw _
    · intro n hn ih
      have e6 : n = 6 * (n / 6) + n % 6 := by omega
      have nx : ∀ (b : Nat), cntT (tT α) (n + 1) = cntT (tT α) n + b → Rw mX11_count X 49 [some (.ref i_M), some (.int w), some (.int (nI (cntT (tT α) n))), some (.int (nI n))] [.int (nI b), .int (nI (cntT (tT α) n))] (wd (sG σ i_M 0 0) x) 0 0 := by
        intro b hb
        rw [hb] at ih
        refine R_iadd hC dX11_count_49 ?_
        refine R_top (nI_add _ _) ?_
        refine R_istore_n (i := 2) hC dX11_count_50 rfl (by decide) rfl (R_iinc hC dX11_count_51 rfl (inc1 _) (by decide) rfl (R_goto hC 9 dX11_count_54 (by decide) ?_))
        exact ih
      refine R_iload_n (i := 3) hC dX11_count_9 rfl rfl (R_bipush (v := 36) hC dX11_count_10 (by decide) ?_)
      refine R_icmp_ge hC 57 dX11_count_12 (by decide) (fun h => absurd h (nI_ge (b := 36) hn (by decide))) (fun _ => ?_)
      refine R_iload_n (i := 2) hC dX11_count_15 rfl rfl (R_aload_n (i := 0) hC dX11_count_16 rfl rfl (R_aload_n (i := 0) hC dX11_count_17 rfl rfl (R_gR hC dX11_count_18 fl_X11_13 L_M rfl (R_iload_n (i := 3) hC dX11_count_21 rfl rfl (R_bipush (v := 6) hC dX11_count_22 (by decide) (R_idiv hC dX11_count_24 (by decide) ?_))))))
      refine R_top (y := nI (n / 6)) (by rw [show (6 : Int32) = nI 6 from rfl]; exact pk_div (by omega) (by decide) (by decide)) ?_
      refine R_iload_n (i := 3) hC dX11_count_25 rfl rfl (R_bipush (v := 6) hC dX11_count_26 (by decide) (R_irem hC dX11_count_28 (by decide) ?_))
      refine R_top (y := nI (n % 6)) (by rw [show (6 : Int32) = nI 6 from rfl]; exact pk_rem (by omega) (by decide) (by decide)) ?_
      refine R_V3i hC hR dX11_count_29 MV_X11_isCell ml_X11_158 L_M rfl (s_isCell _ _ _ L_m_now _ _) (by decide) ⟨by decide, by decide⟩ (Nat.le_of_ble_eq_true rfl) ?_
      refine R_if_eq hC 48 dX11_count_32 (by decide) (fun h32 => ?_) (fun h32 => ?_)
      · refine R_iconst (v := 0) hC dX11_count_48 (by decide) ?_
        first
        | exact nx 1 (by rw [cntT, if_pos ⟨q1, q2, h41⟩])
        | (have h42 := h41; exact nx 0 (by rw [cntT, if_neg (fun z => z.2.2 h42)]))
        | exact nx 0 (by rw [cntT, if_neg (fun z => b2i_0 h32 (hTB.inT_iff.mpr ⟨inR_n z.1 (by omega), inR_n z.2.1 (by omega)⟩))])
      · have hin := hTB.inT_iff.mp (b2i_ne h32)
        have q1 : n / 6 < (tT α).1 := by have := hin.1.2; rw [nI_toInt (by omega)] at this; omega
        have q2 : n % 6 < (tT α).2.1 := by have := hin.2.2; rw [nI_toInt (by omega)] at this; omega
        have ev : σ.2.2 i_m_now n = (tT α).2.2 (n / 6) (n % 6) := by have := h.2.1.2.2 (n / 6) (n % 6) q1 q2; rwa [← e6] at this
        refine R_aload_n (i := 0) hC dX11_count_35 rfl rfl (R_gR hC dX11_count_36 fl_X11_13 L_M rfl (R_iload_n (i := 3) hC dX11_count_39 rfl rfl (R_aI hC dX11_count_40 L_m_now n rfl (by omega) (by decide) ?_)))
        refine R_top (y := (tT α).2.2 (n / 6) (n % 6)) ev ?_
        refine R_if_eq hC 48 dX11_count_41 (by decide) (fun h41 => ?_) (fun h41 => ?_)
        · refine R_iconst (v := 0) hC dX11_count_48 (by decide) ?_
          first
          | exact nx 1 (by rw [cntT, if_pos ⟨q1, q2, h41⟩])
          | (have h42 := h41; exact nx 0 (by rw [cntT, if_neg (fun z => z.2.2 h42)]))
          | exact nx 0 (by rw [cntT, if_neg (fun z => b2i_0 h32 (hTB.inT_iff.mpr ⟨inR_n z.1 (by omega), inR_n z.2.1 (by omega)⟩))])
        · refine R_iconst (v := 1) hC dX11_count_44 (by decide) (R_goto hC 49 dX11_count_45 (by decide) ?_)
          first
          | exact nx 1 (by rw [cntT, if_pos ⟨q1, q2, h41⟩])
          | (have h42 := h41; exact nx 0 (by rw [cntT, if_neg (fun z => z.2.2 h42)]))
          | exact nx 0 (by rw [cntT, if_neg (fun z => b2i_0 h32 (hTB.inT_iff.mpr ⟨inR_n z.1 (by omega), inR_n z.2.1 (by omega)⟩))])
  refine R_aload_n (i := 0) hC dX11_count_0 rfl rfl (R_iconst (v := 0) hC dX11_count_1 (by decide) (R_pI hC dX11_count_2 fl_X11_83 L_M rfl (R_iconst (v := 0) hC dX11_count_5 (by decide) (R_istore_n (i := 2) hC dX11_count_6 rfl (by decide) rfl (R_iconst (v := 0) hC dX11_count_7 (by decide) (R_istore_n (i := 3) hC dX11_count_8 rfl (by decide) rfl ?_))))))
  exact loop 0 (by decide)
end
section
/-! ===== the model's determinants ===== -/
def sm (g : Nat → Int32) : Nat → Int32
  | 0 => 0
  | n + 1 => sm g n + g n
theorem sm_ext {g h : Nat → Int32} : ∀ n, (∀ c, c < n → g c = h c) → sm g n = sm h n
  | 0, _ => rfl
  | n + 1, e => by rw [sm, sm, sm_ext n (fun c hc => e c (by omega)), e n (by omega)]
theorem sm_cut {g : Nat → Int32} {n : Nat} : ∀ k, (∀ c, n ≤ c → c < n + k → g c = 0) → sm g (n + k) = sm g n
  | 0, _ => rfl
  | k + 1, e => by rw [← Nat.add_assoc, sm, sm_cut k (fun c h1 h2 => e c h1 (by omega)), e (n + k) (by omega) (by omega), Int32.add_zero]
def clr (s i : Nat) : Nat := if s.testBit i then s - 2 ^ i else s
/-- a term of the expansion by row n -/
def tmD (v : Nat → Int32) (C c : Nat) : Int32 := if C.testBit c then (if (pc6 C - 1 + pcn C c) % 2 = 0 then v c else -(v c)) else 0
/-- the determinant of the rows R (bits below n) and the columns C, by the last row -/
def dT (f : Nat → Nat → Int32) : Nat → Nat → Nat → Int32
  | 0, _, _ => 1
  | n + 1, R, C => if R.testBit n then sm (fun c => tmD (fun c => f n c * dT f n (clr R n) (clr C c)) C c) 6 else dT f n R C
def dD (f : Nat → Nat → Int32) (R C : Nat) : Int32 := dT f 6 R C
theorem dT_skip {f : Nat → Nat → Int32} {R C k : Nat} : ∀ n, (∀ j, k ≤ j → j < k + n → ¬ R.testBit j = true) → dT f (k + n) R C = dT f k R C
  | 0, _ => rfl
  | n + 1, e => by rw [← Nat.add_assoc, dT, if_neg (e (k + n) (by omega) (by omega)), dT_skip n (fun j h1 h2 => e j h1 (by omega))]
theorem clr_o : ∀ R, R < 64 → ∀ k, k < 6 → ∀ j, j < 6 → (clr R k).testBit j = (R.testBit j && !(j == k)) := by decide +kernel
theorem clr_top (R : Nat) (hR : R < 64) (k : Nat) (hk : k < 6) (h : ∀ j, j < 6 → k < j → ¬ R.testBit j = true) (j : Nat) (hj : j < 6) (hkj : k ≤ j) : ¬ (clr R k).testBit j = true := by
  rw [clr_o R hR k hk j hj]
  rcases Nat.lt_or_ge k j with q | q
  · have := h j hj q
    simp [this]
  · have e : j = k := by omega
    simp [e]
theorem dD_0 (f : Nat → Nat → Int32) (C : Nat) : dD f 0 C = 1 := by
  unfold dD; rw [show 6 = 0 + 6 from rfl, dT_skip 6 (fun j _ _ => by simp), dT]
theorem dD_top (f : Nat → Nat → Int32) {R C k : Nat} (hR : R < 64) (hk : k < 6) (hb : R.testBit k = true) (ha : ∀ j, j < 6 → k < j → ¬ R.testBit j = true) : dD f R C = sm (fun c => tmD (fun c => f k c * dD f (clr R k) (clr C c)) C c) 6 := by
  have e : ∀ C, dD f (clr R k) C = dT f k (clr R k) C := fun C => by
    unfold dD
    have := dT_skip (f := f) (R := clr R k) (C := C) (k := k) (6 - k) (fun j h1 h2 => clr_top R hR k hk ha j (by omega) h1)
    rwa [show k + (6 - k) = 6 by omega] at this
  simp only [e]
  unfold dD
  have := dT_skip (f := f) (R := R) (C := C) (k := k + 1) (5 - k) (fun j h1 h2 => ha j (by omega) (by omega))
  rw [show k + 1 + (5 - k) = 6 by omega] at this
  rw [this, dT, if_pos hb]
theorem shl1 : ∀ i, i ≤ 6 → (1 : Int32) <<< (nI i &&& 31) = nI (2 ^ i) := by decide +kernel
theorem and_clr : ∀ s, s < 64 → ∀ i, i < 6 → nI s &&& ((1 : Int32) <<< (nI i &&& 31) ^^^ -1) = nI (clr s i) := by decide +kernel
theorem and_clr2 : ∀ s, s < 64 → ∀ i, i < 6 → nI s &&& (nI (2 ^ i) ^^^ -1) = nI (clr s i) := by decide +kernel
theorem clr_lt : ∀ s, s < 64 → ∀ i, i < 6 → s.testBit i = true → clr s i < s := by decide +kernel
theorem clr_pc : ∀ s, s < 64 → ∀ i, i < 6 → s.testBit i = true → pc6 (clr s i) + 1 = pc6 s := by decide +kernel
theorem pc6_0 : ∀ s, s < 64 → pc6 s = 0 → s = 0 := by decide +kernel
theorem pc6_le : ∀ s, s < 64 → pc6 s ≤ 6 := by decide +kernel
theorem pcn_le (s n : Nat) : pcn s n ≤ n := by
  induction n with
  | zero => exact Nat.le_refl _
  | succ n ih => rw [pcn]; split <;> omega
theorem bit_ex : ∀ s, s < 64 → s ≠ 0 → ∃ k, k < 6 ∧ s.testBit k = true := by decide +kernel
theorem pw6 {n : Nat} (h : n ≤ 6) : 2 ^ n ≤ 64 := Nat.pow_le_pow_right (by decide) h
theorem bit_hi (s : Nat) (_ : s < 64) (n : Nat) (_ : n ≤ 6) (h : s < 2 ^ n) (c : Nat) (_ : c < 6) (hc : n ≤ c) : ¬ s.testBit c = true := by
  rw [Nat.testBit_lt_two_pow (Nat.lt_of_lt_of_le h (Nat.pow_le_pow_right (by decide) hc))]
  decide
/-- all determinants of a table -/
def DT (g : Nat → Int32) (T : tb) : Prop := ∀ R C, R < 2 ^ T.1 → C < 2 ^ T.2.1 → pc6 R = pc6 C → g (64 * R + C) = dD T.2.2 R C
theorem n64 (r c : Nat) : (64 : Int32) * nI r + nI c = nI (64 * r + c) := by
  rw [show (64 : Int32) = nI 64 from rfl, pk_mul, nI_add]
theorem tst {s i : Nat} (h : ¬ (if s.testBit i then (1 : Int32) else 0) = 0) : s.testBit i = true := by
  by_cases q : s.testBit i = true
  · exact q
  · rw [if_neg q] at h; exact absurd rfl h
theorem tst0 {s i : Nat} (h : (if s.testBit i then (1 : Int32) else 0) = 0) : ¬ s.testBit i = true := fun q => by rw [if_pos q] at h; exact absurd h (by decide)
theorem dX11_laysDets_0 : decode cX11_laysDets 0 = .ok (.iconst 0, 1) := by decide +kernel
theorem dX11_laysDets_1 : decode cX11_laysDets 1 = .ok (.istore_n 2, 1) := by decide +kernel
theorem dX11_laysDets_2 : decode cX11_laysDets 2 = .ok (.iload_n 2, 1) := by decide +kernel
theorem dX11_laysDets_3 : decode cX11_laysDets 3 = .ok (.iconst 1, 1) := by decide +kernel
theorem dX11_laysDets_4 : decode cX11_laysDets 4 = .ok (.aload_n 1, 1) := by decide +kernel
theorem dX11_laysDets_5 : decode cX11_laysDets 5 = .ok (.bipush 36, 2) := by decide +kernel
theorem dX11_laysDets_7 : decode cX11_laysDets 7 = .ok (.iaload, 1) := by decide +kernel
theorem dX11_laysDets_8 : decode cX11_laysDets 8 = .ok (.ishl, 1) := by decide +kernel
theorem dX11_laysDets_9 : decode cX11_laysDets 9 = .ok (.if_icmp .ge 196, 3) := by decide +kernel
theorem dX11_laysDets_12 : decode cX11_laysDets 12 = .ok (.iconst 5, 1) := by decide +kernel
theorem dX11_laysDets_13 : decode cX11_laysDets 13 = .ok (.istore_n 3, 1) := by decide +kernel
theorem dX11_laysDets_14 : decode cX11_laysDets 14 = .ok (.iload_n 3, 1) := by decide +kernel
theorem dX11_laysDets_15 : decode cX11_laysDets 15 = .ok (.ifCond .lt 17, 3) := by decide +kernel
theorem dX11_laysDets_18 : decode cX11_laysDets 18 = .ok (.iload_n 2, 1) := by decide +kernel
theorem dX11_laysDets_19 : decode cX11_laysDets 19 = .ok (.iload_n 3, 1) := by decide +kernel
theorem dX11_laysDets_20 : decode cX11_laysDets 20 = .ok (.invokestatic 200, 3) := by decide +kernel
theorem dX11_laysDets_23 : decode cX11_laysDets 23 = .ok (.ifCond .ne 9, 3) := by decide +kernel
theorem dX11_laysDets_26 : decode cX11_laysDets 26 = .ok (.iinc 3 (-1), 3) := by decide +kernel
theorem dX11_laysDets_29 : decode cX11_laysDets 29 = .ok (.goto (-15), 3) := by decide +kernel
theorem dX11_laysDets_32 : decode cX11_laysDets 32 = .ok (.iload_n 2, 1) := by decide +kernel
theorem dX11_laysDets_33 : decode cX11_laysDets 33 = .ok (.invokestatic 204, 3) := by decide +kernel
theorem dX11_laysDets_36 : decode cX11_laysDets 36 = .ok (.istore 4, 2) := by decide +kernel
theorem dX11_laysDets_38 : decode cX11_laysDets 38 = .ok (.iconst 0, 1) := by decide +kernel
theorem dX11_laysDets_39 : decode cX11_laysDets 39 = .ok (.istore 5, 2) := by decide +kernel
theorem dX11_laysDets_41 : decode cX11_laysDets 41 = .ok (.iload 5, 2) := by decide +kernel
theorem dX11_laysDets_43 : decode cX11_laysDets 43 = .ok (.iconst 1, 1) := by decide +kernel
theorem dX11_laysDets_44 : decode cX11_laysDets 44 = .ok (.aload_n 1, 1) := by decide +kernel
theorem dX11_laysDets_45 : decode cX11_laysDets 45 = .ok (.bipush 37, 2) := by decide +kernel
theorem dX11_laysDets_47 : decode cX11_laysDets 47 = .ok (.iaload, 1) := by decide +kernel
theorem dX11_laysDets_48 : decode cX11_laysDets 48 = .ok (.ishl, 1) := by decide +kernel
theorem dX11_laysDets_49 : decode cX11_laysDets 49 = .ok (.if_icmp .ge 150, 3) := by decide +kernel
theorem dX11_laysDets_52 : decode cX11_laysDets 52 = .ok (.iload 5, 2) := by decide +kernel
theorem dX11_laysDets_54 : decode cX11_laysDets 54 = .ok (.invokestatic 204, 3) := by decide +kernel
theorem dX11_laysDets_57 : decode cX11_laysDets 57 = .ok (.iload 4, 2) := by decide +kernel
theorem dX11_laysDets_59 : decode cX11_laysDets 59 = .ok (.if_icmp .eq 6, 3) := by decide +kernel
theorem dX11_laysDets_62 : decode cX11_laysDets 62 = .ok (.goto 131, 3) := by decide +kernel
theorem dX11_laysDets_65 : decode cX11_laysDets 65 = .ok (.iload_n 2, 1) := by decide +kernel
theorem dX11_laysDets_66 : decode cX11_laysDets 66 = .ok (.ifCond .ne 7, 3) := by decide +kernel
theorem dX11_laysDets_69 : decode cX11_laysDets 69 = .ok (.iconst 1, 1) := by decide +kernel
theorem dX11_laysDets_70 : decode cX11_laysDets 70 = .ok (.goto 4, 3) := by decide +kernel
theorem dX11_laysDets_73 : decode cX11_laysDets 73 = .ok (.iconst 0, 1) := by decide +kernel
theorem dX11_laysDets_74 : decode cX11_laysDets 74 = .ok (.istore 6, 2) := by decide +kernel
theorem dX11_laysDets_76 : decode cX11_laysDets 76 = .ok (.iconst 0, 1) := by decide +kernel
theorem dX11_laysDets_77 : decode cX11_laysDets 77 = .ok (.istore 7, 2) := by decide +kernel
theorem dX11_laysDets_79 : decode cX11_laysDets 79 = .ok (.iconst 0, 1) := by decide +kernel
theorem dX11_laysDets_80 : decode cX11_laysDets 80 = .ok (.istore 8, 2) := by decide +kernel
theorem dX11_laysDets_82 : decode cX11_laysDets 82 = .ok (.iload 8, 2) := by decide +kernel
theorem dX11_laysDets_84 : decode cX11_laysDets 84 = .ok (.aload_n 1, 1) := by decide +kernel
theorem dX11_laysDets_85 : decode cX11_laysDets 85 = .ok (.bipush 37, 2) := by decide +kernel
theorem dX11_laysDets_87 : decode cX11_laysDets 87 = .ok (.iaload, 1) := by decide +kernel
theorem dX11_laysDets_88 : decode cX11_laysDets 88 = .ok (.if_icmp .ge 91, 3) := by decide +kernel
theorem dX11_laysDets_91 : decode cX11_laysDets 91 = .ok (.iload_n 2, 1) := by decide +kernel
theorem dX11_laysDets_92 : decode cX11_laysDets 92 = .ok (.ifCond .eq 87, 3) := by decide +kernel
theorem dX11_laysDets_95 : decode cX11_laysDets 95 = .ok (.iload 5, 2) := by decide +kernel
theorem dX11_laysDets_97 : decode cX11_laysDets 97 = .ok (.iload 8, 2) := by decide +kernel
theorem dX11_laysDets_99 : decode cX11_laysDets 99 = .ok (.invokestatic 200, 3) := by decide +kernel
theorem dX11_laysDets_102 : decode cX11_laysDets 102 = .ok (.ifCond .ne 6, 3) := by decide +kernel
theorem dX11_laysDets_105 : decode cX11_laysDets 105 = .ok (.goto 68, 3) := by decide +kernel
theorem dX11_laysDets_108 : decode cX11_laysDets 108 = .ok (.aload_n 1, 1) := by decide +kernel
theorem dX11_laysDets_109 : decode cX11_laysDets 109 = .ok (.bipush 6, 2) := by decide +kernel
theorem dX11_laysDets_111 : decode cX11_laysDets 111 = .ok (.iload_n 3, 1) := by decide +kernel
theorem dX11_laysDets_112 : decode cX11_laysDets 112 = .ok (.imul, 1) := by decide +kernel
theorem dX11_laysDets_113 : decode cX11_laysDets 113 = .ok (.iload 8, 2) := by decide +kernel
theorem dX11_laysDets_115 : decode cX11_laysDets 115 = .ok (.iadd, 1) := by decide +kernel
theorem dX11_laysDets_116 : decode cX11_laysDets 116 = .ok (.iaload, 1) := by decide +kernel
theorem dX11_laysDets_117 : decode cX11_laysDets 117 = .ok (.aload_n 0, 1) := by decide +kernel
theorem dX11_laysDets_118 : decode cX11_laysDets 118 = .ok (.getfield 38, 3) := by decide +kernel
theorem dX11_laysDets_121 : decode cX11_laysDets 121 = .ok (.bipush 64, 2) := by decide +kernel
theorem dX11_laysDets_123 : decode cX11_laysDets 123 = .ok (.iload_n 2, 1) := by decide +kernel
theorem dX11_laysDets_124 : decode cX11_laysDets 124 = .ok (.iconst 1, 1) := by decide +kernel
theorem dX11_laysDets_125 : decode cX11_laysDets 125 = .ok (.iload_n 3, 1) := by decide +kernel
theorem dX11_laysDets_126 : decode cX11_laysDets 126 = .ok (.ishl, 1) := by decide +kernel
theorem dX11_laysDets_127 : decode cX11_laysDets 127 = .ok (.iconst (-1), 1) := by decide +kernel
theorem dX11_laysDets_128 : decode cX11_laysDets 128 = .ok (.ixor, 1) := by decide +kernel
theorem dX11_laysDets_129 : decode cX11_laysDets 129 = .ok (.iand, 1) := by decide +kernel
theorem dX11_laysDets_130 : decode cX11_laysDets 130 = .ok (.imul, 1) := by decide +kernel
theorem dX11_laysDets_131 : decode cX11_laysDets 131 = .ok (.iload 5, 2) := by decide +kernel
theorem dX11_laysDets_133 : decode cX11_laysDets 133 = .ok (.iconst 1, 1) := by decide +kernel
theorem dX11_laysDets_134 : decode cX11_laysDets 134 = .ok (.iload 8, 2) := by decide +kernel
theorem dX11_laysDets_136 : decode cX11_laysDets 136 = .ok (.ishl, 1) := by decide +kernel
theorem dX11_laysDets_137 : decode cX11_laysDets 137 = .ok (.iconst (-1), 1) := by decide +kernel
theorem dX11_laysDets_138 : decode cX11_laysDets 138 = .ok (.ixor, 1) := by decide +kernel
theorem dX11_laysDets_139 : decode cX11_laysDets 139 = .ok (.iand, 1) := by decide +kernel
theorem dX11_laysDets_140 : decode cX11_laysDets 140 = .ok (.iadd, 1) := by decide +kernel
theorem dX11_laysDets_141 : decode cX11_laysDets 141 = .ok (.iaload, 1) := by decide +kernel
theorem dX11_laysDets_142 : decode cX11_laysDets 142 = .ok (.imul, 1) := by decide +kernel
theorem dX11_laysDets_143 : decode cX11_laysDets 143 = .ok (.istore 9, 2) := by decide +kernel
theorem dX11_laysDets_145 : decode cX11_laysDets 145 = .ok (.iload 6, 2) := by decide +kernel
theorem dX11_laysDets_147 : decode cX11_laysDets 147 = .ok (.iload 4, 2) := by decide +kernel
theorem dX11_laysDets_149 : decode cX11_laysDets 149 = .ok (.iconst 1, 1) := by decide +kernel
theorem dX11_laysDets_150 : decode cX11_laysDets 150 = .ok (.isub, 1) := by decide +kernel
theorem dX11_laysDets_151 : decode cX11_laysDets 151 = .ok (.iload 7, 2) := by decide +kernel
theorem dX11_laysDets_153 : decode cX11_laysDets 153 = .ok (.iadd, 1) := by decide +kernel
theorem dX11_laysDets_154 : decode cX11_laysDets 154 = .ok (.iconst 2, 1) := by decide +kernel
theorem dX11_laysDets_155 : decode cX11_laysDets 155 = .ok (.irem, 1) := by decide +kernel
theorem dX11_laysDets_156 : decode cX11_laysDets 156 = .ok (.ifCond .ne 8, 3) := by decide +kernel
theorem dX11_laysDets_159 : decode cX11_laysDets 159 = .ok (.iload 9, 2) := by decide +kernel
theorem dX11_laysDets_161 : decode cX11_laysDets 161 = .ok (.goto 6, 3) := by decide +kernel
theorem dX11_laysDets_164 : decode cX11_laysDets 164 = .ok (.iload 9, 2) := by decide +kernel
theorem dX11_laysDets_166 : decode cX11_laysDets 166 = .ok (.ineg, 1) := by decide +kernel
theorem dX11_laysDets_167 : decode cX11_laysDets 167 = .ok (.iadd, 1) := by decide +kernel
theorem dX11_laysDets_168 : decode cX11_laysDets 168 = .ok (.istore 6, 2) := by decide +kernel
theorem dX11_laysDets_170 : decode cX11_laysDets 170 = .ok (.iinc 7 1, 3) := by decide +kernel
theorem dX11_laysDets_173 : decode cX11_laysDets 173 = .ok (.iinc 8 1, 3) := by decide +kernel
theorem dX11_laysDets_176 : decode cX11_laysDets 176 = .ok (.goto (-94), 3) := by decide +kernel
theorem dX11_laysDets_179 : decode cX11_laysDets 179 = .ok (.aload_n 0, 1) := by decide +kernel
theorem dX11_laysDets_180 : decode cX11_laysDets 180 = .ok (.getfield 38, 3) := by decide +kernel
theorem dX11_laysDets_183 : decode cX11_laysDets 183 = .ok (.bipush 64, 2) := by decide +kernel
theorem dX11_laysDets_185 : decode cX11_laysDets 185 = .ok (.iload_n 2, 1) := by decide +kernel
theorem dX11_laysDets_186 : decode cX11_laysDets 186 = .ok (.imul, 1) := by decide +kernel
theorem dX11_laysDets_187 : decode cX11_laysDets 187 = .ok (.iload 5, 2) := by decide +kernel
theorem dX11_laysDets_189 : decode cX11_laysDets 189 = .ok (.iadd, 1) := by decide +kernel
theorem dX11_laysDets_190 : decode cX11_laysDets 190 = .ok (.iload 6, 2) := by decide +kernel
theorem dX11_laysDets_192 : decode cX11_laysDets 192 = .ok (.iastore, 1) := by decide +kernel
theorem dX11_laysDets_193 : decode cX11_laysDets 193 = .ok (.iinc 5 1, 3) := by decide +kernel
theorem dX11_laysDets_196 : decode cX11_laysDets 196 = .ok (.goto (-155), 3) := by decide +kernel
theorem dX11_laysDets_199 : decode cX11_laysDets 199 = .ok (.iinc 2 1, 3) := by decide +kernel
theorem dX11_laysDets_202 : decode cX11_laysDets 202 = .ok (.goto (-200), 3) := by decide +kernel
theorem dX11_laysDets_205 : decode cX11_laysDets 205 = .ok (.return_, 1) := by decide +kernel
theorem dX11_isTotal_0 : decode cX11_isTotal 0 = .ok (.aload_n 0, 1) := by decide +kernel
theorem dX11_isTotal_1 : decode cX11_isTotal 1 = .ok (.aload_n 1, 1) := by decide +kernel
theorem dX11_isTotal_2 : decode cX11_isTotal 2 = .ok (.invokevirtual 207, 3) := by decide +kernel
theorem dX11_isTotal_5 : decode cX11_isTotal 5 = .ok (.iconst 1, 1) := by decide +kernel
theorem dX11_isTotal_6 : decode cX11_isTotal 6 = .ok (.istore_n 2, 1) := by decide +kernel
theorem dX11_isTotal_7 : decode cX11_isTotal 7 = .ok (.iload_n 2, 1) := by decide +kernel
theorem dX11_isTotal_8 : decode cX11_isTotal 8 = .ok (.iconst 1, 1) := by decide +kernel
theorem dX11_isTotal_9 : decode cX11_isTotal 9 = .ok (.aload_n 1, 1) := by decide +kernel
theorem dX11_isTotal_10 : decode cX11_isTotal 10 = .ok (.bipush 36, 2) := by decide +kernel
theorem dX11_isTotal_12 : decode cX11_isTotal 12 = .ok (.iaload, 1) := by decide +kernel
theorem dX11_isTotal_13 : decode cX11_isTotal 13 = .ok (.ishl, 1) := by decide +kernel
theorem dX11_isTotal_14 : decode cX11_isTotal 14 = .ok (.if_icmp .ge 65, 3) := by decide +kernel
theorem dX11_isTotal_17 : decode cX11_isTotal 17 = .ok (.iconst 1, 1) := by decide +kernel
theorem dX11_isTotal_18 : decode cX11_isTotal 18 = .ok (.istore_n 3, 1) := by decide +kernel
theorem dX11_isTotal_19 : decode cX11_isTotal 19 = .ok (.iload_n 3, 1) := by decide +kernel
theorem dX11_isTotal_20 : decode cX11_isTotal 20 = .ok (.iconst 1, 1) := by decide +kernel
theorem dX11_isTotal_21 : decode cX11_isTotal 21 = .ok (.aload_n 1, 1) := by decide +kernel
theorem dX11_isTotal_22 : decode cX11_isTotal 22 = .ok (.bipush 37, 2) := by decide +kernel
theorem dX11_isTotal_24 : decode cX11_isTotal 24 = .ok (.iaload, 1) := by decide +kernel
theorem dX11_isTotal_25 : decode cX11_isTotal 25 = .ok (.ishl, 1) := by decide +kernel
theorem dX11_isTotal_26 : decode cX11_isTotal 26 = .ok (.if_icmp .ge 47, 3) := by decide +kernel
theorem dX11_isTotal_29 : decode cX11_isTotal 29 = .ok (.iload_n 2, 1) := by decide +kernel
theorem dX11_isTotal_30 : decode cX11_isTotal 30 = .ok (.invokestatic 204, 3) := by decide +kernel
theorem dX11_isTotal_33 : decode cX11_isTotal 33 = .ok (.iload_n 3, 1) := by decide +kernel
theorem dX11_isTotal_34 : decode cX11_isTotal 34 = .ok (.invokestatic 204, 3) := by decide +kernel
theorem dX11_isTotal_37 : decode cX11_isTotal 37 = .ok (.if_icmp .eq 6, 3) := by decide +kernel
theorem dX11_isTotal_40 : decode cX11_isTotal 40 = .ok (.goto 27, 3) := by decide +kernel
theorem dX11_isTotal_43 : decode cX11_isTotal 43 = .ok (.aload_n 0, 1) := by decide +kernel
theorem dX11_isTotal_44 : decode cX11_isTotal 44 = .ok (.getfield 38, 3) := by decide +kernel
theorem dX11_isTotal_47 : decode cX11_isTotal 47 = .ok (.bipush 64, 2) := by decide +kernel
theorem dX11_isTotal_49 : decode cX11_isTotal 49 = .ok (.iload_n 2, 1) := by decide +kernel
theorem dX11_isTotal_50 : decode cX11_isTotal 50 = .ok (.imul, 1) := by decide +kernel
theorem dX11_isTotal_51 : decode cX11_isTotal 51 = .ok (.iload_n 3, 1) := by decide +kernel
theorem dX11_isTotal_52 : decode cX11_isTotal 52 = .ok (.iadd, 1) := by decide +kernel
theorem dX11_isTotal_53 : decode cX11_isTotal 53 = .ok (.iaload, 1) := by decide +kernel
theorem dX11_isTotal_54 : decode cX11_isTotal 54 = .ok (.i2l, 1) := by decide +kernel
theorem dX11_isTotal_55 : decode cX11_isTotal 55 = .ok (.ldc2_w 162, 3) := by decide +kernel
theorem dX11_isTotal_58 : decode cX11_isTotal 58 = .ok (.lconst 1, 1) := by decide +kernel
theorem dX11_isTotal_59 : decode cX11_isTotal 59 = .ok (.invokestatic 140, 3) := by decide +kernel
theorem dX11_isTotal_62 : decode cX11_isTotal 62 = .ok (.ifCond .ne 5, 3) := by decide +kernel
theorem dX11_isTotal_65 : decode cX11_isTotal 65 = .ok (.iconst 0, 1) := by decide +kernel
theorem dX11_isTotal_66 : decode cX11_isTotal 66 = .ok (.ireturn, 1) := by decide +kernel
theorem dX11_isTotal_67 : decode cX11_isTotal 67 = .ok (.iinc 3 1, 3) := by decide +kernel
theorem dX11_isTotal_70 : decode cX11_isTotal 70 = .ok (.goto (-51), 3) := by decide +kernel
theorem dX11_isTotal_73 : decode cX11_isTotal 73 = .ok (.iinc 2 1, 3) := by decide +kernel
theorem dX11_isTotal_76 : decode cX11_isTotal 76 = .ok (.goto (-69), 3) := by decide +kernel
theorem dX11_isTotal_79 : decode cX11_isTotal 79 = .ok (.iconst 1, 1) := by decide +kernel
theorem dX11_isTotal_80 : decode cX11_isTotal 80 = .ok (.ireturn, 1) := by decide +kernel
theorem dX11_isSquare_0 : decode cX11_isSquare 0 = .ok (.iload_n 2, 1) := by decide +kernel
theorem dX11_isSquare_1 : decode cX11_isSquare 1 = .ok (.ifCond .le 42, 3) := by decide +kernel
theorem dX11_isSquare_4 : decode cX11_isSquare 4 = .ok (.iload_n 3, 1) := by decide +kernel
theorem dX11_isSquare_5 : decode cX11_isSquare 5 = .ok (.ifCond .le 38, 3) := by decide +kernel
theorem dX11_isSquare_8 : decode cX11_isSquare 8 = .ok (.iload_n 2, 1) := by decide +kernel
theorem dX11_isSquare_9 : decode cX11_isSquare 9 = .ok (.iconst 1, 1) := by decide +kernel
theorem dX11_isSquare_10 : decode cX11_isSquare 10 = .ok (.aload_n 1, 1) := by decide +kernel
theorem dX11_isSquare_11 : decode cX11_isSquare 11 = .ok (.bipush 36, 2) := by decide +kernel
theorem dX11_isSquare_13 : decode cX11_isSquare 13 = .ok (.iaload, 1) := by decide +kernel
theorem dX11_isSquare_14 : decode cX11_isSquare 14 = .ok (.ishl, 1) := by decide +kernel
theorem dX11_isSquare_15 : decode cX11_isSquare 15 = .ok (.if_icmp .ge 28, 3) := by decide +kernel
theorem dX11_isSquare_18 : decode cX11_isSquare 18 = .ok (.iload_n 3, 1) := by decide +kernel
theorem dX11_isSquare_19 : decode cX11_isSquare 19 = .ok (.iconst 1, 1) := by decide +kernel
theorem dX11_isSquare_20 : decode cX11_isSquare 20 = .ok (.aload_n 1, 1) := by decide +kernel
theorem dX11_isSquare_21 : decode cX11_isSquare 21 = .ok (.bipush 37, 2) := by decide +kernel
theorem dX11_isSquare_23 : decode cX11_isSquare 23 = .ok (.iaload, 1) := by decide +kernel
theorem dX11_isSquare_24 : decode cX11_isSquare 24 = .ok (.ishl, 1) := by decide +kernel
theorem dX11_isSquare_25 : decode cX11_isSquare 25 = .ok (.if_icmp .ge 18, 3) := by decide +kernel
theorem dX11_isSquare_28 : decode cX11_isSquare 28 = .ok (.iload_n 2, 1) := by decide +kernel
theorem dX11_isSquare_29 : decode cX11_isSquare 29 = .ok (.invokestatic 204, 3) := by decide +kernel
theorem dX11_isSquare_32 : decode cX11_isSquare 32 = .ok (.iload_n 3, 1) := by decide +kernel
theorem dX11_isSquare_33 : decode cX11_isSquare 33 = .ok (.invokestatic 204, 3) := by decide +kernel
theorem dX11_isSquare_36 : decode cX11_isSquare 36 = .ok (.if_icmp .ne 7, 3) := by decide +kernel
theorem dX11_isSquare_39 : decode cX11_isSquare 39 = .ok (.iconst 1, 1) := by decide +kernel
theorem dX11_isSquare_40 : decode cX11_isSquare 40 = .ok (.goto 4, 3) := by decide +kernel
theorem dX11_isSquare_43 : decode cX11_isSquare 43 = .ok (.iconst 0, 1) := by decide +kernel
theorem dX11_isSquare_44 : decode cX11_isSquare 44 = .ok (.ireturn, 1) := by decide +kernel
theorem dX11_det_0 : decode cX11_det 0 = .ok (.aload_n 0, 1) := by decide +kernel
theorem dX11_det_1 : decode cX11_det 1 = .ok (.iconst 0, 1) := by decide +kernel
theorem dX11_det_2 : decode cX11_det 2 = .ok (.putfield 83, 3) := by decide +kernel
theorem dX11_det_5 : decode cX11_det 5 = .ok (.aload_n 0, 1) := by decide +kernel
theorem dX11_det_6 : decode cX11_det 6 = .ok (.getfield 13, 3) := by decide +kernel
theorem dX11_det_9 : decode cX11_det 9 = .ok (.bipush 36, 2) := by decide +kernel
theorem dX11_det_11 : decode cX11_det 11 = .ok (.iaload, 1) := by decide +kernel
theorem dX11_det_12 : decode cX11_det 12 = .ok (.ifCond .eq 16, 3) := by decide +kernel
theorem dX11_det_15 : decode cX11_det 15 = .ok (.aload_n 0, 1) := by decide +kernel
theorem dX11_det_16 : decode cX11_det 16 = .ok (.aload_n 0, 1) := by decide +kernel
theorem dX11_det_17 : decode cX11_det 17 = .ok (.getfield 13, 3) := by decide +kernel
theorem dX11_det_20 : decode cX11_det 20 = .ok (.iload_n 1, 1) := by decide +kernel
theorem dX11_det_21 : decode cX11_det 21 = .ok (.iload_n 2, 1) := by decide +kernel
theorem dX11_det_22 : decode cX11_det 22 = .ok (.invokevirtual 211, 3) := by decide +kernel
theorem dX11_det_25 : decode cX11_det 25 = .ok (.ifCond .ne 6, 3) := by decide +kernel
theorem dX11_det_28 : decode cX11_det 28 = .ok (.ldc 133, 2) := by decide +kernel
theorem dX11_det_30 : decode cX11_det 30 = .ok (.ireturn, 1) := by decide +kernel
theorem dX11_det_31 : decode cX11_det 31 = .ok (.aload_n 0, 1) := by decide +kernel
theorem dX11_det_32 : decode cX11_det 32 = .ok (.aload_n 0, 1) := by decide +kernel
theorem dX11_det_33 : decode cX11_det 33 = .ok (.getfield 13, 3) := by decide +kernel
theorem dX11_det_36 : decode cX11_det 36 = .ok (.invokevirtual 207, 3) := by decide +kernel
theorem dX11_det_39 : decode cX11_det 39 = .ok (.aload_n 0, 1) := by decide +kernel
theorem dX11_det_40 : decode cX11_det 40 = .ok (.getfield 38, 3) := by decide +kernel
theorem dX11_det_43 : decode cX11_det 43 = .ok (.bipush 64, 2) := by decide +kernel
theorem dX11_det_45 : decode cX11_det 45 = .ok (.iload_n 1, 1) := by decide +kernel
theorem dX11_det_46 : decode cX11_det 46 = .ok (.imul, 1) := by decide +kernel
theorem dX11_det_47 : decode cX11_det 47 = .ok (.iload_n 2, 1) := by decide +kernel
theorem dX11_det_48 : decode cX11_det 48 = .ok (.iadd, 1) := by decide +kernel
theorem dX11_det_49 : decode cX11_det 49 = .ok (.iaload, 1) := by decide +kernel
theorem dX11_det_50 : decode cX11_det 50 = .ok (.ireturn, 1) := by decide +kernel
theorem s_laysDets (σ : sg) (x : aW) (t : Nat) (ht : LY t (0, 38, [])) (hne : t ≠ i_m_dets) (T : tb) (hT0 : TB (σ.2.2 t) T) :
    Mt mX11_laysDets 1 0 0 [.ref i_M, .ref t] (wd σ x) (fun q w => q = none ∧ ∃ g, w = wd (sA σ i_m_dets g) x ∧ DT g T) := by
  refine Mt.of MI_X11_laysDets (Nat.le_of_ble_eq_true rfl) (fun X hC hR hT => ?_)
  obtain ⟨hR1, hC1, hR6, hC6, hE⟩ := id hT0
  have p1 := pw6 hR6
  have p2 := pw6 hC6
  have e0 : ∀ (g : Nat → Int32) (k : Nat), (sA σ i_m_dets g).2.2 t k = σ.2.2 t k := fun g k => by rw [sA_ne hne]
  have key : ∀ n, n ≤ 2 ^ T.1 → ∀ g : Nat → Int32, (∀ R C, R < n → C < 2 ^ T.2.1 → pc6 R = pc6 C → g (64 * R + C) = dD T.2.2 R C) → ∀ (u3 u4 u5 u6 u7 u8 u9 : Option Value), Rw mX11_laysDets X 2 [some (.ref i_M), some (.ref t), some (.int (nI n)), u3, u4, u5, u6, u7, u8, u9] [] (wd (sA σ i_m_dets g) x) 0 0 := by
    refine up_loop (2 ^ T.1) ?_ ?_
    · intro g hg u3 u4 u5 u6 u7 u8 u9
      refine R_iload_n (i := 2) hC dX11_laysDets_2 rfl rfl (R_iconst (v := 1) hC dX11_laysDets_3 (by decide) (R_aload_n (i := 1) hC dX11_laysDets_4 rfl rfl (R_bipush (v := 36) hC dX11_laysDets_5 (by decide) (R_aI hC dX11_laysDets_7 ht 36 rfl (by decide) (by decide) ?_))))
      refine R_top (y := nI T.1) (by rw [e0, hR1]) ?_
      refine R_ishl hC dX11_laysDets_8 ?_
      refine R_top (y := nI (2 ^ T.1)) (shl1 _ hR6) ?_
      refine R_icmp_ge hC 205 dX11_laysDets_9 (by decide) (fun _ => ?_) (fun h => absurd (Int32.le_refl _) h)
      exact R_vret hC hT dX11_laysDets_205 rfl ⟨rfl, g, rfl, fun R C h1 h2 h3 => hg R C h1 h2 h3⟩
    · intro n hn ih g hg u3 u4 u5 u6 u7 u8 u9
      refine R_iload_n (i := 2) hC dX11_laysDets_2 rfl rfl (R_iconst (v := 1) hC dX11_laysDets_3 (by decide) (R_aload_n (i := 1) hC dX11_laysDets_4 rfl rfl (R_bipush (v := 36) hC dX11_laysDets_5 (by decide) (R_aI hC dX11_laysDets_7 ht 36 rfl (by decide) (by decide) ?_))))
      refine R_top (y := nI T.1) (by rw [e0, hR1]) ?_
      refine R_ishl hC dX11_laysDets_8 ?_
      refine R_top (y := nI (2 ^ T.1)) (shl1 _ hR6) ?_
      refine R_icmp_ge hC 205 dX11_laysDets_9 (by decide) (fun h => absurd h (nI_ge hn (by omega))) (fun _ => ?_)
      refine R_iconst (v := 5) hC dX11_laysDets_12 (by decide) (R_istore_n (i := 3) hC dX11_laysDets_13 rfl (by decide) rfl ?_)
      skip
      -- the columns
      have mid : ∀ tp : Int32, (¬ n = 0 → ∃ k, k < 6 ∧ tp = nI k ∧ n.testBit k = true ∧ ∀ j, j < 6 → k < j → ¬ n.testBit j = true) → ∀ k, k ≤ 2 ^ T.2.1 → ∀ g : Nat → Int32, (∀ R C, R < n → C < 2 ^ T.2.1 → pc6 R = pc6 C → g (64 * R + C) = dD T.2.2 R C) → (∀ C, C < k → pc6 n = pc6 C → g (64 * n + C) = dD T.2.2 n C) → ∀ (u6 u7 u8 u9 : Option Value), Rw mX11_laysDets X 41 [some (.ref i_M), some (.ref t), some (.int (nI n)), some (.int tp), some (.int (nI (pc6 n))), some (.int (nI k)), u6, u7, u8, u9] [] (wd (sA σ i_m_dets g) x) 0 0 := by
        intro tp htp
        refine up_loop (2 ^ T.2.1) ?_ ?_
        · intro g hg hk u6 u7 u8 u9
          refine R_iload hC dX11_laysDets_41 rfl (R_iconst (v := 1) hC dX11_laysDets_43 (by decide) (R_aload_n (i := 1) hC dX11_laysDets_44 rfl rfl (R_bipush (v := 37) hC dX11_laysDets_45 (by decide) (R_aI hC dX11_laysDets_47 ht 37 rfl (by decide) (by decide) ?_))))
          refine R_top (y := nI T.2.1) (by rw [e0, hC1]) ?_
          refine R_ishl hC dX11_laysDets_48 ?_
          refine R_top (y := nI (2 ^ T.2.1)) (shl1 _ hC6) ?_
          refine R_icmp_ge hC 199 dX11_laysDets_49 (by decide) (fun _ => ?_) (fun h => absurd (Int32.le_refl _) h)
          refine R_iinc hC dX11_laysDets_199 rfl (inc1 _) (by decide) rfl (R_goto hC 2 dX11_laysDets_202 (by decide) ?_)
          exact ih g (fun R C h1 h2 h3 => by rcases (by omega : R < n ∨ R = n) with h | rfl; exact hg R C h h2 h3; exact hk C h2 h3) _ _ _ _ _ _ _
        · intro k hk ihk g hg hgk u6 u7 u8 u9
          -- the end of one square
          have fin : ∀ s, (pc6 n = pc6 k → s = dD T.2.2 n k) → ∀ (u7 u8 u9 : Option Value), Rw mX11_laysDets X 179 [some (.ref i_M), some (.ref t), some (.int (nI n)), some (.int tp), some (.int (nI (pc6 n))), some (.int (nI k)), some (.int s), u7, u8, u9] [] (wd (sA σ i_m_dets g) x) 0 0 := by
            intro s hs u7 u8 u9
            refine R_aload_n (i := 0) hC dX11_laysDets_179 rfl rfl (R_gR hC dX11_laysDets_180 fl_X11_38 L_M rfl (R_bipush (v := 64) hC dX11_laysDets_183 (by decide) (R_iload_n (i := 2) hC dX11_laysDets_185 rfl rfl (R_imul hC dX11_laysDets_186 (R_iload hC dX11_laysDets_187 rfl (R_iadd hC dX11_laysDets_189 (R_iload hC dX11_laysDets_190 rfl ?_)))))))
            refine R_sI hC dX11_laysDets_192 L_m_dets (64 * n + k) (n64 n k) (by omega) (by decide) ?_
            refine R_wd (by rw [sA_eq, sA_sA]) ?_
            refine R_iinc hC dX11_laysDets_193 rfl (inc1 _) (by decide) rfl (R_goto hC 41 dX11_laysDets_196 (by decide) ?_)
            exact ihk _ (fun R C h1 h2 h3 => by rw [upd, if_neg (by omega)]; exact hg R C h1 h2 h3) (fun C h1 h3 => by
            rcases (by omega : C < k ∨ C = k) with h | rfl
            · rw [upd, if_neg (by omega)]; exact hgk C h h3
            · rw [upd, if_pos rfl]; exact hs h3) _ _ _ _
          have skip : ¬ pc6 n = pc6 k → Rw mX11_laysDets X 193 [some (.ref i_M), some (.ref t), some (.int (nI n)), some (.int tp), some (.int (nI (pc6 n))), some (.int (nI k)), u6, u7, u8, u9] [] (wd (sA σ i_m_dets g) x) 0 0 := by
            intro hs
            refine R_iinc hC dX11_laysDets_193 rfl (inc1 _) (by decide) rfl (R_goto hC 41 dX11_laysDets_196 (by decide) ?_)
            exact ihk _ hg (fun C h1 h3 => by rcases (by omega : C < k ∨ C = k) with h | rfl; exact hgk C h h3; exact absurd h3 hs) _ _ _ _
          -- the sum
          have inn : ¬ n = 0 → pc6 n = pc6 k → ∀ b, b < 6 → tp = nI b → n.testBit b = true → (∀ j, j < 6 → b < j → ¬ n.testBit j = true) → ∀ c, c ≤ T.2.1 → ∀ (u9 : Option Value), Rw mX11_laysDets X 82 [some (.ref i_M), some (.ref t), some (.int (nI n)), some (.int tp), some (.int (nI (pc6 n))), some (.int (nI k)), some (.int (sm (fun c => tmD (fun c => T.2.2 b c * dD T.2.2 (clr n b) (clr k c)) k c) c)), some (.int (nI (pcn k c))), some (.int (nI c)), u9] [] (wd (sA σ i_m_dets g) x) 0 0 := by
            intro hn0 hpc b hb etp hbit habove
            have hbR : b < T.1 := by
              rcases Nat.lt_or_ge b T.1 with h | h
              · exact h
              · exact absurd hbit (bit_hi n (by omega) T.1 hR6 hn b hb h)
            refine up_loop T.2.1 ?_ ?_
            · intro u9
              refine R_iload hC dX11_laysDets_82 rfl (R_aload_n (i := 1) hC dX11_laysDets_84 rfl rfl (R_bipush (v := 37) hC dX11_laysDets_85 (by decide) (R_aI hC dX11_laysDets_87 ht 37 rfl (by decide) (by decide) ?_)))
              refine R_top (y := nI T.2.1) (by rw [e0, hC1]) ?_
              refine R_icmp_ge hC 179 dX11_laysDets_88 (by decide) (fun _ => ?_) (fun h => absurd (Int32.le_refl _) h)
              exact fin _ (fun _ => by
              rw [dD_top T.2.2 (by omega) hb hbit habove]
              have := sm_cut (g := fun c => tmD (fun c => T.2.2 b c * dD T.2.2 (clr n b) (clr k c)) k c) (n := T.2.1) (6 - T.2.1) (fun c h1 h2 => by show (if k.testBit c then _ else (0 : Int32)) = 0; rw [if_neg (bit_hi k (by omega) T.2.1 hC6 hk c (by omega) h1)])
              rw [show T.2.1 + (6 - T.2.1) = 6 by omega] at this
              exact this.symm) _ _ _
            · intro c hc ihc u9
              by_cases hbc : k.testBit c = true
              · have hpos : 1 ≤ pc6 k := by have := clr_pc k (by omega) c (by omega) hbc; omega
                have q1 := pc6_le k (by omega)
                have q2 := pcn_le k c
                have nx : ∀ v, v = tmD (fun c => T.2.2 b c * dD T.2.2 (clr n b) (clr k c)) k c → ∀ u9, Rw mX11_laysDets X 167 [some (.ref i_M), some (.ref t), some (.int (nI n)), some (.int tp), some (.int (nI (pc6 n))), some (.int (nI k)), some (.int (sm (fun c => tmD (fun c => T.2.2 b c * dD T.2.2 (clr n b) (clr k c)) k c) c)), some (.int (nI (pcn k c))), some (.int (nI c)), u9] [.int v, .int (sm (fun c => tmD (fun c => T.2.2 b c * dD T.2.2 (clr n b) (clr k c)) k c) c)] (wd (sA σ i_m_dets g) x) 0 0 := by
                  intro v hv u9
                  subst hv
                  have e : pcn k (c + 1) = pcn k c + 1 := by rw [pcn, if_pos hbc]
                  rw [e] at ihc
                  refine R_iadd hC dX11_laysDets_167 (R_istore hC dX11_laysDets_168 (by decide) rfl (R_iinc hC dX11_laysDets_170 rfl (inc1 _) (by decide) rfl (R_iinc hC dX11_laysDets_173 rfl (inc1 _) (by decide) rfl (R_goto hC 82 dX11_laysDets_176 (by decide) ?_))))
                  exact ihc _
                refine R_iload hC dX11_laysDets_82 rfl (R_aload_n (i := 1) hC dX11_laysDets_84 rfl rfl (R_bipush (v := 37) hC dX11_laysDets_85 (by decide) (R_aI hC dX11_laysDets_87 ht 37 rfl (by decide) (by decide) ?_)))
                refine R_top (y := nI T.2.1) (by rw [e0, hC1]) ?_
                refine R_icmp_ge hC 179 dX11_laysDets_88 (by decide) (fun h => absurd h (nI_ge hc (by omega))) (fun _ => ?_)
                refine R_iload_n (i := 2) hC dX11_laysDets_91 rfl rfl ?_
                refine R_if_eq hC 179 dX11_laysDets_92 (by decide) (fun h => absurd h (nI_ne0 (by omega) (by omega))) (fun _ => ?_)
                refine R_iload hC dX11_laysDets_95 rfl (R_iload hC dX11_laysDets_97 rfl ?_)
                refine R_S2i hC hR dX11_laysDets_99 MS_X11_has ml_X11_200 (s_has k c (by omega) (by omega) _) (by decide) ⟨by decide, by decide⟩ (Nat.le_of_ble_eq_true rfl) ?_
                rw [if_pos hbc]
                refine R_if_ne hC 108 dX11_laysDets_102 (by decide) (fun _ => ?_) (fun h => absurd h (by decide))
                refine R_aload_n (i := 1) hC dX11_laysDets_108 rfl rfl (R_bipush (v := 6) hC dX11_laysDets_109 (by decide) (R_iload_n (i := 3) hC dX11_laysDets_111 rfl rfl (R_imul hC dX11_laysDets_112 (R_iload hC dX11_laysDets_113 rfl (R_iadd hC dX11_laysDets_115 (R_aI hC dX11_laysDets_116 ht (6 * b + c) (by rw [etp]; exact n6 b c) (by omega) (by decide) ?_))))))
                refine R_top (y := T.2.2 b c) (by rw [e0, (hE b c hbR hc).1]) ?_
                refine R_aload_n (i := 0) hC dX11_laysDets_117 rfl rfl (R_gR hC dX11_laysDets_118 fl_X11_38 L_M rfl (R_bipush (v := 64) hC dX11_laysDets_121 (by decide) (R_iload_n (i := 2) hC dX11_laysDets_123 rfl rfl (R_iconst (v := 1) hC dX11_laysDets_124 (by decide) (R_iload_n (i := 3) hC dX11_laysDets_125 rfl rfl (R_ishl hC dX11_laysDets_126 (R_iconst (v := (-1)) hC dX11_laysDets_127 (by decide) ?_)))))))
                refine R_ixor hC dX11_laysDets_128 (R_iand hC dX11_laysDets_129 ?_)
                refine R_top (y := nI (clr n b)) (by rw [etp]; exact and_clr n (by omega) b hb) ?_
                refine R_imul hC dX11_laysDets_130 (R_iload hC dX11_laysDets_131 rfl (R_iconst (v := 1) hC dX11_laysDets_133 (by decide) (R_iload hC dX11_laysDets_134 rfl (R_ishl hC dX11_laysDets_136 (R_iconst (v := (-1)) hC dX11_laysDets_137 (by decide) (R_ixor hC dX11_laysDets_138 (R_iand hC dX11_laysDets_139 ?_)))))))
                refine R_top (y := nI (clr k c)) (and_clr k (by omega) c (by omega)) ?_
                refine R_iadd hC dX11_laysDets_140 (R_aI hC dX11_laysDets_141 L_m_dets (64 * clr n b + clr k c) (n64 _ _) (by have := clr_lt n (by omega) b hb hbit; have := clr_lt k (by omega) c (by omega) hbc; omega) (by decide) ?_)
                refine R_top (y := dD T.2.2 (clr n b) (clr k c)) (by rw [sA_eq]; exact hg _ _ (clr_lt n (by omega) b hb hbit) (Nat.lt_trans (clr_lt k (by omega) c (by omega) hbc) hk) (by have := clr_pc n (by omega) b hb hbit; have := clr_pc k (by omega) c (by omega) hbc; omega)) ?_
                refine R_imul hC dX11_laysDets_142 (R_istore hC dX11_laysDets_143 (by decide) rfl (R_iload hC dX11_laysDets_145 rfl (R_iload hC dX11_laysDets_147 rfl (R_iconst (v := 1) hC dX11_laysDets_149 (by decide) (R_isub hC dX11_laysDets_150 (R_iload hC dX11_laysDets_151 rfl (R_iadd hC dX11_laysDets_153 ?_)))))))
                refine R_top (y := nI (pc6 k - 1 + pcn k c)) (by rw [hpc, nI_dec (by omega), nI_add]) ?_
                refine R_iconst (v := 2) hC dX11_laysDets_154 (by decide) (R_irem hC dX11_laysDets_155 (by decide) ?_)
                refine R_top (y := nI ((pc6 k - 1 + pcn k c) % 2)) (by rw [show (2 : Int32) = nI 2 from rfl]; exact pk_rem (by omega) (by decide) (by decide)) ?_
                have em : (nI ((pc6 k - 1 + pcn k c) % 2) = (0 : Int32)) ↔ (pc6 k - 1 + pcn k c) % 2 = 0 := nI_eq (b := 0) (by omega) (by decide)
                refine R_if_ne hC 164 dX11_laysDets_156 (by decide) (fun h156 => ?_) (fun h156 => ?_)
                · refine R_iload hC dX11_laysDets_164 rfl (R_ineg hC dX11_laysDets_166 ?_)
                  exact nx _ (by
                  show _ = (if k.testBit c then _ else (0 : Int32))
                  rw [if_pos hbc]
                  first
                  | (rw [if_pos (em.mp h156)]; done)
                  | (rw [if_neg (fun z => h156 (em.mpr z))]; done)) _
                · refine R_iload hC dX11_laysDets_159 rfl (R_goto hC 167 dX11_laysDets_161 (by decide) ?_)
                  exact nx _ (by
                  show _ = (if k.testBit c then _ else (0 : Int32))
                  rw [if_pos hbc]
                  first
                  | (rw [if_pos (em.mp h156)]; done)
                  | (rw [if_neg (fun z => h156 (em.mpr z))]; done)) _
              · have e : pcn k (c + 1) = pcn k c := by rw [pcn, if_neg hbc]; rfl
                have e2 : sm (fun c => tmD (fun c => T.2.2 b c * dD T.2.2 (clr n b) (clr k c)) k c) (c + 1) = sm (fun c => tmD (fun c => T.2.2 b c * dD T.2.2 (clr n b) (clr k c)) k c) c := by
                  rw [sm]
                  show _ + (if k.testBit c then _ else (0 : Int32)) = _
                  rw [if_neg hbc, Int32.add_zero]
                rw [e, e2] at ihc
                refine R_iload hC dX11_laysDets_82 rfl (R_aload_n (i := 1) hC dX11_laysDets_84 rfl rfl (R_bipush (v := 37) hC dX11_laysDets_85 (by decide) (R_aI hC dX11_laysDets_87 ht 37 rfl (by decide) (by decide) ?_)))
                refine R_top (y := nI T.2.1) (by rw [e0, hC1]) ?_
                refine R_icmp_ge hC 179 dX11_laysDets_88 (by decide) (fun h => absurd h (nI_ge hc (by omega))) (fun _ => ?_)
                refine R_iload_n (i := 2) hC dX11_laysDets_91 rfl rfl ?_
                refine R_if_eq hC 179 dX11_laysDets_92 (by decide) (fun h => absurd h (nI_ne0 (by omega) (by omega))) (fun _ => ?_)
                refine R_iload hC dX11_laysDets_95 rfl (R_iload hC dX11_laysDets_97 rfl ?_)
                refine R_S2i hC hR dX11_laysDets_99 MS_X11_has ml_X11_200 (s_has k c (by omega) (by omega) _) (by decide) ⟨by decide, by decide⟩ (Nat.le_of_ble_eq_true rfl) ?_
                rw [if_neg hbc]
                refine R_if_ne hC 108 dX11_laysDets_102 (by decide) (fun h => absurd (by decide) h) (fun _ => ?_)
                refine R_goto hC 173 dX11_laysDets_105 (by decide) (R_iinc hC dX11_laysDets_173 rfl (inc1 _) (by decide) rfl (R_goto hC 82 dX11_laysDets_176 (by decide) ?_))
                exact ihc _
          have q1 := pc6_le k (by omega)
          have q2 := pc6_le n (by omega)
          have em : (nI (pc6 k) = nI (pc6 n)) ↔ pc6 k = pc6 n := nI_eq (by omega) (by omega)
          by_cases hn0 : n = 0
          · subst hn0
            refine R_iload hC dX11_laysDets_41 rfl (R_iconst (v := 1) hC dX11_laysDets_43 (by decide) (R_aload_n (i := 1) hC dX11_laysDets_44 rfl rfl (R_bipush (v := 37) hC dX11_laysDets_45 (by decide) (R_aI hC dX11_laysDets_47 ht 37 rfl (by decide) (by decide) ?_))))
            refine R_top (y := nI T.2.1) (by rw [e0, hC1]) ?_
            refine R_ishl hC dX11_laysDets_48 ?_
            refine R_top (y := nI (2 ^ T.2.1)) (shl1 _ hC6) ?_
            refine R_icmp_ge hC 199 dX11_laysDets_49 (by decide) (fun h => absurd h (nI_ge hk (by omega))) (fun _ => ?_)
            refine R_iload hC dX11_laysDets_52 rfl ?_
            refine R_S1i hC hR dX11_laysDets_54 MS_X11_sizeOf ml_X11_204 (s_sizeOf k (by omega) _) (by decide) ⟨by decide, by decide⟩ (Nat.le_of_ble_eq_true rfl) ?_
            refine R_iload hC dX11_laysDets_57 rfl ?_
            refine R_icmp_eq hC 65 dX11_laysDets_59 (by decide) (fun h59 => ?_) (fun h59 => ?_)
            · refine R_iload_n (i := 2) hC dX11_laysDets_65 rfl rfl ?_
              refine R_if_ne hC 73 dX11_laysDets_66 (by decide) (fun h => absurd (by decide) h) (fun _ => ?_)
              refine R_iconst (v := 1) hC dX11_laysDets_69 (by decide) (R_goto hC 74 dX11_laysDets_70 (by decide) (R_istore hC dX11_laysDets_74 (by decide) rfl (R_iconst (v := 0) hC dX11_laysDets_76 (by decide) (R_istore hC dX11_laysDets_77 (by decide) rfl (R_iconst (v := 0) hC dX11_laysDets_79 (by decide) (R_istore hC dX11_laysDets_80 (by decide) rfl (R_iload hC dX11_laysDets_82 rfl ?_)))))))
              refine R_aload_n (i := 1) hC dX11_laysDets_84 rfl rfl (R_bipush (v := 37) hC dX11_laysDets_85 (by decide) (R_aI hC dX11_laysDets_87 ht 37 rfl (by decide) (by decide) ?_))
              refine R_top (y := nI T.2.1) (by rw [e0, hC1]) ?_
              refine R_icmp_ge hC 179 dX11_laysDets_88 (by decide) (fun h88 => ?_) (fun h88 => ?_)
              · exact fin _ (fun _ => (dD_0 _ _).symm) _ _ _
              · refine R_iload_n (i := 2) hC dX11_laysDets_91 rfl rfl ?_
                refine R_if_eq hC 179 dX11_laysDets_92 (by decide) (fun _ => ?_) (fun h => absurd (by decide) h)
                exact fin _ (fun _ => (dD_0 _ _).symm) _ _ _
            · refine R_goto hC 193 dX11_laysDets_62 (by decide) ?_
              exact skip (fun z => h59 (em.mpr z.symm))
          · obtain ⟨b, hb, etp, hbit, hab⟩ := htp hn0
            refine R_iload hC dX11_laysDets_41 rfl (R_iconst (v := 1) hC dX11_laysDets_43 (by decide) (R_aload_n (i := 1) hC dX11_laysDets_44 rfl rfl (R_bipush (v := 37) hC dX11_laysDets_45 (by decide) (R_aI hC dX11_laysDets_47 ht 37 rfl (by decide) (by decide) ?_))))
            refine R_top (y := nI T.2.1) (by rw [e0, hC1]) ?_
            refine R_ishl hC dX11_laysDets_48 ?_
            refine R_top (y := nI (2 ^ T.2.1)) (shl1 _ hC6) ?_
            refine R_icmp_ge hC 199 dX11_laysDets_49 (by decide) (fun h => absurd h (nI_ge hk (by omega))) (fun _ => ?_)
            refine R_iload hC dX11_laysDets_52 rfl ?_
            refine R_S1i hC hR dX11_laysDets_54 MS_X11_sizeOf ml_X11_204 (s_sizeOf k (by omega) _) (by decide) ⟨by decide, by decide⟩ (Nat.le_of_ble_eq_true rfl) ?_
            refine R_iload hC dX11_laysDets_57 rfl ?_
            refine R_icmp_eq hC 65 dX11_laysDets_59 (by decide) (fun h59 => ?_) (fun h59 => ?_)
            · refine R_iload_n (i := 2) hC dX11_laysDets_65 rfl rfl ?_
              refine R_if_ne hC 73 dX11_laysDets_66 (by decide) (fun _ => ?_) (fun h => absurd h (nI_ne0 (by omega) (by omega)))
              refine R_iconst (v := 0) hC dX11_laysDets_73 (by decide) (R_istore hC dX11_laysDets_74 (by decide) rfl (R_iconst (v := 0) hC dX11_laysDets_76 (by decide) (R_istore hC dX11_laysDets_77 (by decide) rfl (R_iconst (v := 0) hC dX11_laysDets_79 (by decide) (R_istore hC dX11_laysDets_80 (by decide) rfl ?_)))))
              exact inn hn0 (em.mp h59).symm b hb etp hbit hab 0 (Nat.zero_le _) _
            · refine R_goto hC 193 dX11_laysDets_62 (by decide) ?_
              exact skip (fun z => h59 (em.mpr z.symm))
      have topl : ∀ k, k ≤ 6 → (∀ j, j < 6 → k ≤ j → ¬ n.testBit j = true) → Rw mX11_laysDets X 14 [some (.ref i_M), some (.ref t), some (.int (nI n)), some (.int (nI k - 1)), u4, u5, u6, u7, u8, u9] [] (wd (sA σ i_m_dets g) x) 0 0 := by
        intro k
        have fin : ∀ tp : Int32, (¬ n = 0 → ∃ k, k < 6 ∧ tp = nI k ∧ n.testBit k = true ∧ ∀ j, j < 6 → k < j → ¬ n.testBit j = true) → Rw mX11_laysDets X 32 [some (.ref i_M), some (.ref t), some (.int (nI n)), some (.int tp), u4, u5, u6, u7, u8, u9] [] (wd (sA σ i_m_dets g) x) 0 0 := by
          intro tp htp
          refine R_iload_n (i := 2) hC dX11_laysDets_32 rfl rfl ?_
          refine R_S1i hC hR dX11_laysDets_33 MS_X11_sizeOf ml_X11_204 (s_sizeOf n (by omega) _) (by decide) ⟨by decide, by decide⟩ (Nat.le_of_ble_eq_true rfl) ?_
          refine R_istore hC dX11_laysDets_36 (by decide) rfl (R_iconst (v := 0) hC dX11_laysDets_38 (by decide) (R_istore hC dX11_laysDets_39 (by decide) rfl ?_))
          exact mid tp htp 0 (Nat.zero_le _) g hg (fun C h1 => absurd h1 (Nat.not_lt_zero _)) _ _ _ _
        induction k with
        | zero =>
          intro hk hab
          refine R_iload_n (i := 3) hC dX11_laysDets_14 rfl rfl ?_
          refine R_if_lt hC 32 dX11_laysDets_15 (by decide) (fun _ => ?_) (fun h => absurd (by decide) h)
          exact fin _ (fun z => by obtain ⟨k, h1, h2⟩ := bit_ex n (by omega) z; exact absurd h2 (hab k h1 (Nat.zero_le _)))
        | succ k ihk =>
          intro hk hab
          rw [nI_pred]
          by_cases hbit : n.testBit k = true
          · refine R_iload_n (i := 3) hC dX11_laysDets_14 rfl rfl ?_
            refine R_if_lt hC 32 dX11_laysDets_15 (by decide) (fun h => absurd h (nI_pos (by omega))) (fun _ => ?_)
            refine R_iload_n (i := 2) hC dX11_laysDets_18 rfl rfl (R_iload_n (i := 3) hC dX11_laysDets_19 rfl rfl ?_)
            refine R_S2i hC hR dX11_laysDets_20 MS_X11_has ml_X11_200 (s_has n k (by omega) (by omega) _) (by decide) ⟨by decide, by decide⟩ (Nat.le_of_ble_eq_true rfl) ?_
            rw [if_pos hbit]
            refine R_if_ne hC 32 dX11_laysDets_23 (by decide) (fun _ => ?_) (fun h => absurd h (by decide))
            exact fin _ (fun _ => ⟨k, by omega, rfl, hbit, fun j h1 h2 => hab j h1 h2⟩)
          · refine R_iload_n (i := 3) hC dX11_laysDets_14 rfl rfl ?_
            refine R_if_lt hC 32 dX11_laysDets_15 (by decide) (fun h => absurd h (nI_pos (by omega))) (fun _ => ?_)
            refine R_iload_n (i := 2) hC dX11_laysDets_18 rfl rfl (R_iload_n (i := 3) hC dX11_laysDets_19 rfl rfl ?_)
            refine R_S2i hC hR dX11_laysDets_20 MS_X11_has ml_X11_200 (s_has n k (by omega) (by omega) _) (by decide) ⟨by decide, by decide⟩ (Nat.le_of_ble_eq_true rfl) ?_
            rw [if_neg hbit]
            refine R_if_ne hC 32 dX11_laysDets_23 (by decide) (fun h => absurd (by decide) h) (fun _ => ?_)
            refine R_iinc hC dX11_laysDets_26 rfl (show nI k + Int32.ofInt (-1) = nI k - 1 by rw [Int32.sub_eq_add_neg]; rfl) (by decide) rfl (R_goto hC 14 dX11_laysDets_29 (by decide) ?_)
            exact ihk (by omega) (fun j h1 h2 => by rcases (by omega : k + 1 ≤ j ∨ j = k) with h | rfl; exact hab j h1 h; exact hbit)
      exact topl 6 (Nat.le_refl _) (fun j h1 h2 => by omega)
  refine R_iconst (v := 0) hC dX11_laysDets_0 (by decide) (R_istore_n (i := 2) hC dX11_laysDets_1 rfl (by decide) rfl ?_)
  (refine R_wd (sA_self σ i_m_dets).symm ?_; exact key 0 (Nat.zero_le _) _ (fun R C h => absurd h (Nat.not_lt_zero _)) _ _ _ _ _ _ _)
end
section
/-! ===== Math.abs, min, max ===== -/
theorem mk_ini : Cond.initialized "java/lang/Math" ∈ lw_gl := gmt tc_1 15 rfl (by decide +kernel)
theorem mk_abs : Cond.static Lib.Math.abs.name ∈ lw_gl ∧ Cond.code Lib.Math.abs.name Lib.Math.abs.code 1 (some .int) ∈ lw_gl := ⟨gmt tc_6 225 rfl (by decide +kernel), gmt tc_6 226 rfl (by decide +kernel)⟩
theorem mk_min : Cond.static Lib.Math.min.name ∈ lw_gl ∧ Cond.code Lib.Math.min.name Lib.Math.min.code 2 (some .int) ∈ lw_gl := ⟨gmt tc_2 179 rfl (by decide +kernel), gmt tc_2 180 rfl (by decide +kernel)⟩
theorem mk_max : Cond.static Lib.Math.max.name ∈ lw_gl ∧ Cond.code Lib.Math.max.name Lib.Math.max.code 2 (some .int) ∈ lw_gl := ⟨gmt tc_2 176 rfl (by decide +kernel), gmt tc_2 177 rfl (by decide +kernel)⟩
theorem kl_X11_218 : Cond.methodLink RX11 218 Lib.Math.abs.name ∈ lw_gl := gmt tc_6 224 rfl (by decide +kernel)
theorem kl_X11_223 : Cond.methodLink RX11 223 Lib.Math.min.name ∈ lw_gl := gmt tc_6 227 rfl (by decide +kernel)
theorem kl_X11_304 : Cond.methodLink RX11 304 Lib.Math.max.name ∈ lw_gl := gmt tc_7 127 rfl (by decide +kernel)
theorem kl_X1_72 : Cond.methodLink RX1 72 Lib.Math.max.name ∈ lw_gl := gmt tc_5 4 rfl (by decide +kernel)
section MRULES
variable {m : mi} {X : aX} {pc : Nat} {ls : List (Option Value)} {st : List Value} {w : aW} {cl sl : Nat}
theorem R_abs (hC : Cx m X) {idx dd mcX msX : Nat} {x : Int32} (hR : Rd X dd mcX msX) (hd : decode m.2.1 pc = .ok (.invokestatic idx, 3)) (hlink : Cond.methodLink m.1.cls idx Lib.Math.abs.name ∈ lw_gl) (hdd : 1 ≤ dd) (hroom : cl ≤ mcX ∧ sl ≤ msX) (hcat : (st.map fun v => v.category).sum ≤ 8)
    (kk : Rw m X (pc + 3) ls (.int (if 0 ≤ x then x else 0 - x) :: st) w cl sl) : Rw m X pc ls (.int x :: st) w cl sl := by
  obtain ⟨p, l, e, R, s, mm, args, below, meth, c, Z, V⟩ := X
  obtain ⟨hV, hx, hb, hml, hr, hlk, hown, hts, hK, hnm⟩ := hC
  obtain ⟨r1, r2, r3, r4⟩ := hR
  intro H locs la hH hL hl
  exact va_mabs hx hb (by rw [hml]; exact hl.1.symm) hown (gl_ts hts hlink) (gl_ts hts mk_abs.1) (gl_ts hts mk_ini) (gl_ts hts mk_abs.2) (by omega) (by rw [cat_map]; omega) (by omega) (by omega) hd (kk H locs la hH hL hl)
theorem R_min (hC : Cx m X) {idx dd mcX msX : Nat} {x y : Int32} (hR : Rd X dd mcX msX) (hd : decode m.2.1 pc = .ok (.invokestatic idx, 3)) (hlink : Cond.methodLink m.1.cls idx Lib.Math.min.name ∈ lw_gl) (hdd : 1 ≤ dd) (hroom : cl ≤ mcX ∧ sl ≤ msX) (hcat : (st.map fun v => v.category).sum ≤ 8)
    (kk : Rw m X (pc + 3) ls (.int (if y < x then y else x) :: st) w cl sl) : Rw m X pc ls (.int y :: .int x :: st) w cl sl := by
  obtain ⟨p, l, e, R, s, mm, args, below, meth, c, Z, V⟩ := X
  obtain ⟨hV, hx, hb, hml, hr, hlk, hown, hts, hK, hnm⟩ := hC
  obtain ⟨r1, r2, r3, r4⟩ := hR
  intro H locs la hH hL hl
  exact va_mmin hx hb (by rw [hml]; exact hl.1.symm) hown (gl_ts hts hlink) (gl_ts hts mk_min.1) (gl_ts hts mk_ini) (gl_ts hts mk_min.2) (by omega) (by rw [cat_map]; omega) (by omega) (by omega) hd (kk H locs la hH hL hl)
theorem R_max (hC : Cx m X) {idx dd mcX msX : Nat} {x y : Int32} (hR : Rd X dd mcX msX) (hd : decode m.2.1 pc = .ok (.invokestatic idx, 3)) (hlink : Cond.methodLink m.1.cls idx Lib.Math.max.name ∈ lw_gl) (hdd : 1 ≤ dd) (hroom : cl ≤ mcX ∧ sl ≤ msX) (hcat : (st.map fun v => v.category).sum ≤ 8)
    (kk : Rw m X (pc + 3) ls (.int (if x < y then y else x) :: st) w cl sl) : Rw m X pc ls (.int y :: .int x :: st) w cl sl := by
  obtain ⟨p, l, e, R, s, mm, args, below, meth, c, Z, V⟩ := X
  obtain ⟨hV, hx, hb, hml, hr, hlk, hown, hts, hK, hnm⟩ := hC
  obtain ⟨r1, r2, r3, r4⟩ := hR
  intro H locs la hH hL hl
  exact va_mmax hx hb (by rw [hml]; exact hl.1.symm) hown (gl_ts hts hlink) (gl_ts hts mk_max.1) (gl_ts hts mk_ini) (gl_ts hts mk_max.2) (by omega) (by rw [cat_map]; omega) (by omega) (by omega) hd (kk H locs la hH hL hl)
end MRULES
/-! ===== folds and searches ===== -/
/-- for i = a .. b - 1: v = h i v -/
def fo {A : Type} (h : Nat → A → A) (a : Nat) : Nat → A → A
  | 0, v => v
  | b + 1, v => if a ≤ b then h b (fo h a b v) else v
theorem fo_0 {A : Type} (h : Nat → A → A) {a b : Nat} (hb : b ≤ a) (v : A) : fo h a b v = v := by
  cases b with
  | zero => rfl
  | succ b => rw [fo, if_neg (by omega)]
theorem fo_s {A : Type} (h : Nat → A → A) {a b : Nat} (hb : a ≤ b) (v : A) : fo h a (b + 1) v = h b (fo h a b v) := by rw [fo, if_pos hb]
theorem fo_id {A : Type} {h : Nat → A → A} {a : Nat} : ∀ b, (∀ i v, a ≤ i → i < b → h i v = v) → ∀ v, fo h a b v = v
  | 0, _, _ => rfl
  | b + 1, e, v => by
    by_cases q : a ≤ b
    · rw [fo_s h q, fo_id b (fun i v h1 h2 => e i v h1 (by omega)) v, e b v q (by omega)]
    · rw [fo_0 h (by omega)]
theorem fo_ext {A : Type} {h k : Nat → A → A} {a : Nat} : ∀ b, (∀ i v, a ≤ i → i < b → h i v = k i v) → ∀ v, fo h a b v = fo k a b v
  | 0, _, _ => rfl
  | b + 1, e, v => by
    by_cases q : a ≤ b
    · rw [fo_s h q, fo_s k q, fo_ext b (fun i v h1 h2 => e i v h1 (by omega)) v, e b _ q (by omega)]
    · rw [fo_0 h (by omega), fo_0 k (by omega)]
/-- rows and columns from 1 on -/
def fo2 {A : Type} (h : Nat → Nat → A → A) (R C : Nat) (v : A) : A := fo (fun r v => fo (h r) 1 C v) 1 R v
/-- the first of i = a .. a + n - 1 that answers -/
def fs {A : Type} (h : Nat → Option A) : Nat → Nat → Option A
  | _, 0 => none
  | a, n + 1 => match h a with
    | some v => some v
    | none => fs h (a + 1) n
theorem fs_n {A : Type} {h : Nat → Option A} {a b : Nat} (hb : a < b) (e : h a = none) : fs h a (b - a) = fs h (a + 1) (b - (a + 1)) := by
  rw [show b - a = (b - (a + 1)) + 1 by omega, fs, e]
theorem fs_y {A : Type} {h : Nat → Option A} {a b : Nat} {v : A} (hb : a < b) (e : h a = some v) : fs h a (b - a) = some v := by
  rw [show b - a = (b - (a + 1)) + 1 by omega, fs, e]
theorem fs_0 {A : Type} {h : Nat → Option A} {a b : Nat} (hb : b ≤ a) : fs h a (b - a) = none := by
  rw [show b - a = 0 by omega, fs]
/-! ===== bounds ===== -/
def bd (B : Int) (v : Int32) : Prop := -B ≤ v.toInt ∧ v.toInt ≤ B
theorem i32_add {a b : Int32} (h1 : -2147483648 ≤ a.toInt + b.toInt) (h2 : a.toInt + b.toInt < 2147483648) : (a + b).toInt = a.toInt + b.toInt := by
  rw [Int32.toInt_add, Int.bmod_def]
  split <;> omega
theorem i32_neg {a : Int32} (h : -2147483648 < a.toInt) : (-a).toInt = -a.toInt := by
  have := Int32.toInt_lt a
  rw [Int32.toInt_neg, Int.bmod_def]
  split <;> omega
theorem bd.add {A B : Int} {v u : Int32} (h : bd A v) (k : bd B u) (hl : A + B < 2147483648) : bd (A + B) (v + u) := by
  obtain ⟨h1, h2⟩ := h
  obtain ⟨k1, k2⟩ := k
  unfold bd
  rw [i32_add (by omega) (by omega)]
  omega
theorem bd.neg {A : Int} {v : Int32} (h : bd A v) (hl : A < 2147483648) : bd A (-v) := by
  obtain ⟨h1, h2⟩ := h
  unfold bd
  rw [i32_neg (by omega)]
  omega
theorem bd.z {A : Int} (h : 0 ≤ A) : bd A 0 := by unfold bd; simp; omega
theorem bd.mul {A : Int} {v u : Int32} (k : bd A u) (hA : 0 ≤ A) (hl : A < 2147483648) (h : sml v) : bd A (v * u) := by
  rcases h with rfl | rfl | rfl
  · rw [show (-1 : Int32) * u = -u by rw [Int32.neg_mul, Int32.one_mul]]; exact k.neg hl
  · rw [Int32.zero_mul]; exact bd.z hA
  · rw [Int32.one_mul]; exact k
theorem sm_bd {g : Nat → Int32} {A : Int} (hA : 0 ≤ A) : ∀ n : Nat, (n : Int) * A < 2147483648 → (∀ c, c < n → bd A (g c)) → bd (n * A) (sm g n)
  | 0, _, _ => by simpa [sm] using bd.z (A := 0) (by decide)
  | n + 1, hl, e => by
    have e1 : ((n + 1 : Nat) : Int) * A = n * A + A := by rw [Int.natCast_add, Int.add_mul]; simp
    rw [e1] at hl ⊢
    rw [sm]
    exact (sm_bd hA n (by omega) (fun c hc => e c (by omega))).add (e n (by omega)) hl
theorem clr_sub : ∀ s, s < 64 → ∀ i, i < 6 → clr s i < 64 := by decide +kernel
theorem dT_bd {f : Nat → Nat → Int32} : ∀ n, n ≤ 6 → ∀ R C, R < 64 → C < 64 → (∀ i c, i < 6 → c < 6 → R.testBit i = true → C.testBit c = true → sml (f i c)) → bd ((6 : Int) ^ n) (dT f n R C)
  | 0, _, _, _, _, _, _ => by show bd 1 1; unfold bd; decide
  | n + 1, hn, R, C, hR, hC, hf => by
    rw [dT]
    have p1 : (0 : Int) ≤ 6 ^ n := Int.pow_nonneg (by decide)
    have p2 : (6 : Int) ^ n ≤ 6 ^ 5 := by
      rcases (by omega : n = 0 ∨ n = 1 ∨ n = 2 ∨ n = 3 ∨ n = 4 ∨ n = 5) with rfl | rfl | rfl | rfl | rfl | rfl <;> decide
    have p3 : (6 : Int) ^ 5 = 7776 := by decide
    have p4 : (6 : Int) ^ (n + 1) = 6 ^ n * 6 := Int.pow_succ 6 n
    split
    · rename_i hb
      have := sm_bd (g := fun c => tmD (fun c => f n c * dT f n (clr R n) (clr C c)) C c) p1 6 (by omega) (fun c hc => by
        show bd _ (if C.testBit c then _ else (0 : Int32))
        split
        · rename_i hc2
          have ih := dT_bd n (by omega) (clr R n) (clr C c) (clr_sub R hR n (by omega)) (clr_sub C hC c hc) (fun i c2 hi hc2 h1 h2 => hf i c2 hi hc2 (by rw [clr_o R hR n (by omega) i hi] at h1; simp at h1; exact h1.1) (by rw [clr_o C hC c hc c2 hc2] at h2; simp at h2; exact h2.1))
          have b1 := ih.mul p1 (by omega) (hf n c (by omega) hc hb hc2)
          split
          · exact b1
          · exact b1.neg (by omega)
        · exact bd.z p1)
      rw [p4, Int.mul_comm]
      exact this
    · have ih := dT_bd n (by omega) R C hR hC hf
      unfold bd at ih ⊢
      omega
theorem dD_bd {T : tb} (ok : tbOK T) {R C : Nat} (hR : R < 2 ^ T.1) (hC : C < 2 ^ T.2.1) : bd 46656 (dD T.2.2 R C) := by
  obtain ⟨o1, o2, -, o4⟩ := ok
  have p1 := pw6 o1
  have p2 := pw6 o2
  refine dT_bd 6 (by decide) R C (by omega) (by omega) (fun i c hi hc h1 h2 => o4 i c ?_ ?_)
  · rcases Nat.lt_or_ge i T.1 with h | h
    · exact h
    · exact absurd h1 (bit_hi R (by omega) _ o1 hR i hi h)
  · rcases Nat.lt_or_ge c T.2.1 with h | h
    · exact h
    · exact absurd h2 (bit_hi C (by omega) _ o2 hC c hc h)
def sortZ (v : Int32) : Int32 := if v = 0 then 0 else if v = 1 ∨ v = -1 then 1 else 2
theorem sort_eq {v : Int32} (h : bd 46656 v) : (if (if 0 ≤ v then v else 0 - v) < 2 then (if 0 ≤ v then v else 0 - v) else 2) = sortZ v := by
  unfold sortZ
  by_cases e0 : v = 0
  · subst e0; decide
  by_cases e1 : v = 1
  · subst e1; decide
  by_cases e2 : v = -1
  · subst e2; decide
  have n0 : v.toInt ≠ 0 := fun z => e0 (Int32.toInt_inj.mp z)
  have n1 : v.toInt ≠ 1 := fun z => e1 (Int32.toInt_inj.mp z)
  have n2 : v.toInt ≠ -1 := fun z => e2 (Int32.toInt_inj.mp z)
  have t2 : (2 : Int32).toInt = 2 := by decide
  obtain ⟨b1, b2⟩ := h
  have hA : ¬ (if 0 ≤ v then v else 0 - v) < 2 := by
    by_cases hv : 0 ≤ v
    · rw [if_pos hv]
      rw [i32_ge] at hv
      rw [i32_lt, t2]
      simp at hv
      omega
    · rw [if_neg hv, i32_lt, t2, Int32.zero_sub, i32_neg (by omega)]
      rw [i32_ge] at hv
      simp at hv
      omega
  rw [if_neg hA, if_neg e0, if_neg (fun z => z.elim e1 e2)]
/-! ===== totality ===== -/
/-- rows and columns of a square -/
def sq (T : tb) (R C : Nat) : Prop := 1 ≤ R ∧ R < 2 ^ T.1 ∧ 1 ≤ C ∧ C < 2 ^ T.2.1 ∧ pc6 R = pc6 C
def tot (T : tb) : Prop := ∀ R C, sq T R C → sml (dD T.2.2 R C)
theorem s_isTotal (σ : sg) (x : aW) (t : Nat) (ht : LY t (0, 38, [])) (hne : t ≠ i_m_dets) (T : tb) (hT0 : TB (σ.2.2 t) T) :
    Mt mX11_isTotal 2 0 0 [.ref i_M, .ref t] (wd σ x) (fun q w => q = some (.int (b2i (tot T))) ∧ ∃ g, w = wd (sA σ i_m_dets g) x ∧ DT g T) := by
  refine Mt.of MI_X11_isTotal (Nat.le_of_ble_eq_true rfl) (fun X hC hR hT => ?_)
  obtain ⟨hR1, hC1, hR6, hC6, hE⟩ := id hT0
  have p1 := pw6 hR6
  have p2 := pw6 hC6
  have e0 : ∀ (g : Nat → Int32) (k : Nat), (sA σ i_m_dets g).2.2 t k = σ.2.2 t k := fun g k => by rw [sA_ne hne]
  have loop : ∀ g, DT g T → ∀ n, n ≤ 2 ^ T.1 → 1 ≤ n → (∀ R C, sq T R C → R < n → sml (dD T.2.2 R C)) → ∀ u3, Rw mX11_isTotal X 7 [some (.ref i_M), some (.ref t), some (.int (nI n)), u3] [] (wd (sA σ i_m_dets g) x) 0 0 := by
    intro g hg
    refine up_loop (2 ^ T.1) ?_ ?_
    · intro h1 hs u3
      refine R_iload_n (i := 2) hC dX11_isTotal_7 rfl rfl (R_iconst (v := 1) hC dX11_isTotal_8 (by decide) (R_aload_n (i := 1) hC dX11_isTotal_9 rfl rfl (R_bipush (v := 36) hC dX11_isTotal_10 (by decide) (R_aI hC dX11_isTotal_12 ht 36 rfl (by decide) (by decide) ?_))))
      refine R_top (y := nI T.1) (by rw [e0, hR1]) ?_
      refine R_ishl hC dX11_isTotal_13 ?_
      refine R_top (y := nI (2 ^ T.1)) (shl1 _ hR6) ?_
      refine R_icmp_ge hC 79 dX11_isTotal_14 (by decide) (fun _ => ?_) (fun h => absurd (Int32.le_refl _) h)
      refine R_iconst (v := 1) hC dX11_isTotal_79 (by decide) ?_
      exact R_zret hC hT dX11_isTotal_80 rfl (by decide) ⟨by rw [b2i_t (show tot T from fun R C h => hs R C h h.2.1)], g, rfl, hg⟩
    · intro n hn ih h1 hs u3
      have inn : ∀ k, k ≤ 2 ^ T.2.1 → 1 ≤ k → (∀ C, sq T n C → C < k → sml (dD T.2.2 n C)) → Rw mX11_isTotal X 19 [some (.ref i_M), some (.ref t), some (.int (nI n)), some (.int (nI k))] [] (wd (sA σ i_m_dets g) x) 0 0 := by
        refine up_loop (2 ^ T.2.1) ?_ ?_
        · intro k1 hk
          refine R_iload_n (i := 3) hC dX11_isTotal_19 rfl rfl (R_iconst (v := 1) hC dX11_isTotal_20 (by decide) (R_aload_n (i := 1) hC dX11_isTotal_21 rfl rfl (R_bipush (v := 37) hC dX11_isTotal_22 (by decide) (R_aI hC dX11_isTotal_24 ht 37 rfl (by decide) (by decide) ?_))))
          refine R_top (y := nI T.2.1) (by rw [e0, hC1]) ?_
          refine R_ishl hC dX11_isTotal_25 ?_
          refine R_top (y := nI (2 ^ T.2.1)) (shl1 _ hC6) ?_
          refine R_icmp_ge hC 73 dX11_isTotal_26 (by decide) (fun _ => ?_) (fun h => absurd (Int32.le_refl _) h)
          refine R_iinc hC dX11_isTotal_73 rfl (inc1 _) (by decide) rfl (R_goto hC 7 dX11_isTotal_76 (by decide) ?_)
          exact ih (by omega) (fun R C h q => by rcases (by omega : R < n ∨ R = n) with z | rfl; exact hs R C h z; exact hk C h h.2.2.2.1) _
        · intro k hk ihk k1 hsk
          have q1 := pc6_le k (by omega)
          have q2 := pc6_le n (by omega)
          have em : (nI (pc6 n) = nI (pc6 k)) ↔ pc6 n = pc6 k := nI_eq (by omega) (by omega)
          have nx : (sq T n k → sml (dD T.2.2 n k)) → Rw mX11_isTotal X 19 [some (.ref i_M), some (.ref t), some (.int (nI n)), some (.int (nI (k + 1)))] [] (wd (sA σ i_m_dets g) x) 0 0 := fun z => ihk (by omega) (fun C h q => by rcases (by omega : C < k ∨ C = k) with y | rfl; exact hsk C h y; exact z h)
          refine R_iload_n (i := 3) hC dX11_isTotal_19 rfl rfl (R_iconst (v := 1) hC dX11_isTotal_20 (by decide) (R_aload_n (i := 1) hC dX11_isTotal_21 rfl rfl (R_bipush (v := 37) hC dX11_isTotal_22 (by decide) (R_aI hC dX11_isTotal_24 ht 37 rfl (by decide) (by decide) ?_))))
          refine R_top (y := nI T.2.1) (by rw [e0, hC1]) ?_
          refine R_ishl hC dX11_isTotal_25 ?_
          refine R_top (y := nI (2 ^ T.2.1)) (shl1 _ hC6) ?_
          refine R_icmp_ge hC 73 dX11_isTotal_26 (by decide) (fun h => absurd h (nI_ge hk (by omega))) (fun _ => ?_)
          refine R_iload_n (i := 2) hC dX11_isTotal_29 rfl rfl ?_
          refine R_S1i hC hR dX11_isTotal_30 MS_X11_sizeOf ml_X11_204 (s_sizeOf n (by omega) _) (by decide) ⟨by decide, by decide⟩ (Nat.le_of_ble_eq_true rfl) ?_
          refine R_iload_n (i := 3) hC dX11_isTotal_33 rfl rfl ?_
          refine R_S1i hC hR dX11_isTotal_34 MS_X11_sizeOf ml_X11_204 (s_sizeOf k (by omega) _) (by decide) ⟨by decide, by decide⟩ (Nat.le_of_ble_eq_true rfl) ?_
          refine R_icmp_eq hC 43 dX11_isTotal_37 (by decide) (fun h37 => ?_) (fun h37 => ?_)
          · refine R_aload_n (i := 0) hC dX11_isTotal_43 rfl rfl (R_gR hC dX11_isTotal_44 fl_X11_38 L_M rfl (R_bipush (v := 64) hC dX11_isTotal_47 (by decide) (R_iload_n (i := 2) hC dX11_isTotal_49 rfl rfl (R_imul hC dX11_isTotal_50 (R_iload_n (i := 3) hC dX11_isTotal_51 rfl rfl (R_iadd hC dX11_isTotal_52 (R_aI hC dX11_isTotal_53 L_m_dets (64 * n + k) (n64 n k) (by omega) (by decide) ?_)))))))
            refine R_top (y := dD T.2.2 n k) (by rw [sA_eq]; exact hg n k hn hk (em.mp h37)) ?_
            refine R_i2l hC dX11_isTotal_54 (R_ldc2 hC dX11_isTotal_55 kc_X11_162 (R_lconst (v := 1) hC dX11_isTotal_58 (by decide) ?_))
            refine R_S3i hC hR dX11_isTotal_59 MS_X11_isIn ml_X11_140 (s_isInZ (dD T.2.2 n k) (-1) 1 (-1) 1 (by decide) (by decide) _) (by decide) ⟨by decide, by decide⟩ (Nat.le_of_ble_eq_true rfl) ?_
            refine R_if_ne hC 67 dX11_isTotal_62 (by decide) (fun h62 => ?_) (fun h62 => ?_)
            · refine R_iinc hC dX11_isTotal_67 rfl (inc1 _) (by decide) rfl (R_goto hC 19 dX11_isTotal_70 (by decide) ?_)
              exact nx (by first | exact fun _ => sml_in.mpr (ite1 h62) | exact fun z => absurd (em.mpr z.2.2.2.2) h37)
            · refine R_iconst (v := 0) hC dX11_isTotal_65 (by decide) ?_
              exact R_zret hC hT dX11_isTotal_66 rfl (by decide) ⟨by rw [b2i_f (fun z => ite0 h62 (sml_in.mp (z n k ⟨h1, hn, k1, hk, em.mp h37⟩)))], g, rfl, hg⟩
          · refine R_goto hC 67 dX11_isTotal_40 (by decide) (R_iinc hC dX11_isTotal_67 rfl (inc1 _) (by decide) rfl (R_goto hC 19 dX11_isTotal_70 (by decide) ?_))
            exact nx (by first | exact fun _ => sml_in.mpr (ite1 h62) | exact fun z => absurd (em.mpr z.2.2.2.2) h37)
      refine R_iload_n (i := 2) hC dX11_isTotal_7 rfl rfl (R_iconst (v := 1) hC dX11_isTotal_8 (by decide) (R_aload_n (i := 1) hC dX11_isTotal_9 rfl rfl (R_bipush (v := 36) hC dX11_isTotal_10 (by decide) (R_aI hC dX11_isTotal_12 ht 36 rfl (by decide) (by decide) ?_))))
      refine R_top (y := nI T.1) (by rw [e0, hR1]) ?_
      refine R_ishl hC dX11_isTotal_13 ?_
      refine R_top (y := nI (2 ^ T.1)) (shl1 _ hR6) ?_
      refine R_icmp_ge hC 79 dX11_isTotal_14 (by decide) (fun h => absurd h (nI_ge hn (by omega))) (fun _ => ?_)
      refine R_iconst (v := 1) hC dX11_isTotal_17 (by decide) (R_istore_n (i := 3) hC dX11_isTotal_18 rfl (by decide) rfl ?_)
      exact inn 1 (Nat.one_le_two_pow) (Nat.le_refl _) (fun C h q => absurd h.2.2.1 (by omega))
  refine R_aload_n (i := 0) hC dX11_isTotal_0 rfl rfl (R_aload_n (i := 1) hC dX11_isTotal_1 rfl rfl ?_)
  refine R_V1g hC hR dX11_isTotal_2 MV_X11_laysDets ml_X11_207 L_M rfl (s_laysDets σ x t ht hne T hT0) (by decide) ⟨by decide, by decide⟩ (Nat.le_of_ble_eq_true rfl) (fun r w1 hq => ?_)
  obtain ⟨rfl, g, rfl, hg⟩ := hq
  refine R_iconst (v := 1) hC dX11_isTotal_5 (by decide) (R_istore_n (i := 2) hC dX11_isTotal_6 rfl (by decide) rfl ?_)
  exact loop g hg 1 (Nat.one_le_two_pow) (Nat.le_refl _) (fun R C h q => absurd h.1 (by omega)) _
/-- a square as a call names it -/
def sqI (T : tb) (r c : Int32) : Prop := 1 ≤ r.toInt ∧ 1 ≤ c.toInt ∧ sq T r.toNatClampNeg c.toNatClampNeg
theorem i32_1 {k : Int32} (h : 0 < k.toInt) : ∃ j : Nat, k = nI j ∧ (j : Int) = k.toInt ∧ j < 2 ^ 31 := i32_nI (by omega)
theorem s_isSquare (σ : sg) (x : aW) (t : Nat) (ht : LY t (0, 38, [])) (T : tb) (hT0 : TB (σ.2.2 t) T) (r c : Int32) :
    Mt mX11_isSquare 1 0 0 [.ref i_M, .ref t, .int r, .int c] (wd σ x) (QI (b2i (sqI T r c)) (wd σ x)) := by
  refine Mt.of MI_X11_isSquare (Nat.le_of_ble_eq_true rfl) (fun X hC hR hT => ?_)
  obtain ⟨hR1, hC1, hR6, hC6, hE⟩ := id hT0
  have p1 := pw6 hR6
  have p2 := pw6 hC6
  have no : ¬ sqI T r c → ∀ v, v = (0 : Int32) → QI (b2i (sqI T r c)) (wd σ x) (some (.int v)) (wd σ x) := fun q v e => ⟨by rw [b2i_f q, e], rfl⟩
  refine R_iload_n (i := 2) hC dX11_isSquare_0 rfl rfl ?_
  refine R_if_le hC 43 dX11_isSquare_1 (by decide) (fun h1 => ?_) (fun h1 => ?_)
  · refine R_iconst (v := 0) hC dX11_isSquare_43 (by decide) ?_
    exact R_zret hC hT dX11_isSquare_44 rfl (by decide) (by
    first
    | (exact ⟨by rw [b2i_t ⟨by omega, by omega, by rw [c1, c2]; exact ⟨by omega, g1, by omega, g2, em.mp h36⟩⟩], rfl⟩)
    | exact no (fun z => h36 (em.mpr (by have := z.2.2.2.2.2.2; rwa [c1, c2] at this))) _ rfl
    | exact no (fun z => by have y := z.2.2.2.2.2.1; rw [c2] at y; have := (nI_leI (by omega) (by omega)).mp h25; omega) _ rfl
    | exact no (fun z => by have y := z.2.2.2.1; rw [c1] at y; have := (nI_leI (by omega) (by omega)).mp h15; omega) _ rfl
    | (refine no (fun z => ?_) _ rfl; have y := z.2.1; simp only [i32_ge, Int32.toInt_zero] at h5; omega)
    | (refine no (fun z => ?_) _ rfl; have y := z.1; simp only [i32_ge, Int32.toInt_zero] at h1; omega))
  · refine R_iload_n (i := 3) hC dX11_isSquare_4 rfl rfl ?_
    refine R_if_le hC 43 dX11_isSquare_5 (by decide) (fun h5 => ?_) (fun h5 => ?_)
    · refine R_iconst (v := 0) hC dX11_isSquare_43 (by decide) ?_
      exact R_zret hC hT dX11_isSquare_44 rfl (by decide) (by
      first
      | (exact ⟨by rw [b2i_t ⟨by omega, by omega, by rw [c1, c2]; exact ⟨by omega, g1, by omega, g2, em.mp h36⟩⟩], rfl⟩)
      | exact no (fun z => h36 (em.mpr (by have := z.2.2.2.2.2.2; rwa [c1, c2] at this))) _ rfl
      | exact no (fun z => by have y := z.2.2.2.2.2.1; rw [c2] at y; have := (nI_leI (by omega) (by omega)).mp h25; omega) _ rfl
      | exact no (fun z => by have y := z.2.2.2.1; rw [c1] at y; have := (nI_leI (by omega) (by omega)).mp h15; omega) _ rfl
      | (refine no (fun z => ?_) _ rfl; have y := z.2.1; simp only [i32_ge, Int32.toInt_zero] at h5; omega)
      | (refine no (fun z => ?_) _ rfl; have y := z.1; simp only [i32_ge, Int32.toInt_zero] at h1; omega))
    · simp only [i32_ge, Int32.toInt_zero, Int.not_le] at h1 h5
      obtain ⟨R, rfl, hR2, hR3⟩ := i32_1 h1
      obtain ⟨C, rfl, hC2, hC3⟩ := i32_1 h5
      have c1 : (nI R).toNatClampNeg = R := nI_clamp hR3
      have c2 : (nI C).toNatClampNeg = C := nI_clamp hC3
      refine R_iload_n (i := 2) hC dX11_isSquare_8 rfl rfl (R_iconst (v := 1) hC dX11_isSquare_9 (by decide) (R_aload_n (i := 1) hC dX11_isSquare_10 rfl rfl (R_bipush (v := 36) hC dX11_isSquare_11 (by decide) (R_aI hC dX11_isSquare_13 ht 36 rfl (by decide) (by decide) ?_))))
      refine R_top (y := nI T.1) (hR1) ?_
      refine R_ishl hC dX11_isSquare_14 ?_
      refine R_top (y := nI (2 ^ T.1)) (shl1 _ hR6) ?_
      refine R_icmp_ge hC 43 dX11_isSquare_15 (by decide) (fun h15 => ?_) (fun h15 => ?_)
      · refine R_iconst (v := 0) hC dX11_isSquare_43 (by decide) ?_
        exact R_zret hC hT dX11_isSquare_44 rfl (by decide) (by
        first
        | (exact ⟨by rw [b2i_t ⟨by omega, by omega, by rw [c1, c2]; exact ⟨by omega, g1, by omega, g2, em.mp h36⟩⟩], rfl⟩)
        | exact no (fun z => h36 (em.mpr (by have := z.2.2.2.2.2.2; rwa [c1, c2] at this))) _ rfl
        | exact no (fun z => by have y := z.2.2.2.2.2.1; rw [c2] at y; have := (nI_leI (by omega) (by omega)).mp h25; omega) _ rfl
        | exact no (fun z => by have y := z.2.2.2.1; rw [c1] at y; have := (nI_leI (by omega) (by omega)).mp h15; omega) _ rfl
        | (refine no (fun z => ?_) _ rfl; have y := z.2.1; simp only [i32_ge, Int32.toInt_zero] at h5; omega)
        | (refine no (fun z => ?_) _ rfl; have y := z.1; simp only [i32_ge, Int32.toInt_zero] at h1; omega))
      · refine R_iload_n (i := 3) hC dX11_isSquare_18 rfl rfl (R_iconst (v := 1) hC dX11_isSquare_19 (by decide) (R_aload_n (i := 1) hC dX11_isSquare_20 rfl rfl (R_bipush (v := 37) hC dX11_isSquare_21 (by decide) (R_aI hC dX11_isSquare_23 ht 37 rfl (by decide) (by decide) ?_))))
        refine R_top (y := nI T.2.1) (hC1) ?_
        refine R_ishl hC dX11_isSquare_24 ?_
        refine R_top (y := nI (2 ^ T.2.1)) (shl1 _ hC6) ?_
        refine R_icmp_ge hC 43 dX11_isSquare_25 (by decide) (fun h25 => ?_) (fun h25 => ?_)
        · refine R_iconst (v := 0) hC dX11_isSquare_43 (by decide) ?_
          exact R_zret hC hT dX11_isSquare_44 rfl (by decide) (by
          first
          | (exact ⟨by rw [b2i_t ⟨by omega, by omega, by rw [c1, c2]; exact ⟨by omega, g1, by omega, g2, em.mp h36⟩⟩], rfl⟩)
          | exact no (fun z => h36 (em.mpr (by have := z.2.2.2.2.2.2; rwa [c1, c2] at this))) _ rfl
          | exact no (fun z => by have y := z.2.2.2.2.2.1; rw [c2] at y; have := (nI_leI (by omega) (by omega)).mp h25; omega) _ rfl
          | exact no (fun z => by have y := z.2.2.2.1; rw [c1] at y; have := (nI_leI (by omega) (by omega)).mp h15; omega) _ rfl
          | (refine no (fun z => ?_) _ rfl; have y := z.2.1; simp only [i32_ge, Int32.toInt_zero] at h5; omega)
          | (refine no (fun z => ?_) _ rfl; have y := z.1; simp only [i32_ge, Int32.toInt_zero] at h1; omega))
        · have g1 : R < 2 ^ T.1 := by have := mt (nI_leI (by omega) (by omega)).mpr h15; omega
          have g2 : C < 2 ^ T.2.1 := by have := mt (nI_leI (by omega) (by omega)).mpr h25; omega
          have q1 := pc6_le R (by omega)
          have q2 := pc6_le C (by omega)
          have em : (nI (pc6 R) = nI (pc6 C)) ↔ pc6 R = pc6 C := nI_eq (by omega) (by omega)
          refine R_iload_n (i := 2) hC dX11_isSquare_28 rfl rfl ?_
          refine R_S1i hC hR dX11_isSquare_29 MS_X11_sizeOf ml_X11_204 (s_sizeOf R (by omega) _) (by decide) ⟨by decide, by decide⟩ (Nat.le_of_ble_eq_true rfl) ?_
          refine R_iload_n (i := 3) hC dX11_isSquare_32 rfl rfl ?_
          refine R_S1i hC hR dX11_isSquare_33 MS_X11_sizeOf ml_X11_204 (s_sizeOf C (by omega) _) (by decide) ⟨by decide, by decide⟩ (Nat.le_of_ble_eq_true rfl) ?_
          refine R_icmp_ne hC 43 dX11_isSquare_36 (by decide) (fun h36 => ?_) (fun h36 => ?_)
          · refine R_iconst (v := 0) hC dX11_isSquare_43 (by decide) ?_
            exact R_zret hC hT dX11_isSquare_44 rfl (by decide) (by
            first
            | (exact ⟨by rw [b2i_t ⟨by omega, by omega, by rw [c1, c2]; exact ⟨by omega, g1, by omega, g2, em.mp h36⟩⟩], rfl⟩)
            | exact no (fun z => h36 (em.mpr (by have := z.2.2.2.2.2.2; rwa [c1, c2] at this))) _ rfl
            | exact no (fun z => by have y := z.2.2.2.2.2.1; rw [c2] at y; have := (nI_leI (by omega) (by omega)).mp h25; omega) _ rfl
            | exact no (fun z => by have y := z.2.2.2.1; rw [c1] at y; have := (nI_leI (by omega) (by omega)).mp h15; omega) _ rfl
            | (refine no (fun z => ?_) _ rfl; have y := z.2.1; simp only [i32_ge, Int32.toInt_zero] at h5; omega)
            | (refine no (fun z => ?_) _ rfl; have y := z.1; simp only [i32_ge, Int32.toInt_zero] at h1; omega))
          · refine R_iconst (v := 1) hC dX11_isSquare_39 (by decide) (R_goto hC 44 dX11_isSquare_40 (by decide) ?_)
            exact R_zret hC hT dX11_isSquare_44 rfl (by decide) (by
            first
            | (exact ⟨by rw [b2i_t ⟨by omega, by omega, by rw [c1, c2]; exact ⟨by omega, g1, by omega, g2, em.mp h36⟩⟩], rfl⟩)
            | exact no (fun z => h36 (em.mpr (by have := z.2.2.2.2.2.2; rwa [c1, c2] at this))) _ rfl
            | exact no (fun z => by have y := z.2.2.2.2.2.1; rw [c2] at y; have := (nI_leI (by omega) (by omega)).mp h25; omega) _ rfl
            | exact no (fun z => by have y := z.2.2.2.1; rw [c1] at y; have := (nI_leI (by omega) (by omega)).mp h15; omega) _ rfl
            | (refine no (fun z => ?_) _ rfl; have y := z.2.1; simp only [i32_ge, Int32.toInt_zero] at h5; omega)
            | (refine no (fun z => ?_) _ rfl; have y := z.1; simp only [i32_ge, Int32.toInt_zero] at h1; omega))
/-- the model behind its determinants of the table -/
def MD (σ ω : sg) (α : aS) : Prop := MInv ω α ∧ CEq σ ω ∧ DT (ω.2.2 i_m_dets) (tT α)
theorem MD.of {σ : sg} {α : aS} {g : Nat → Int32} (h : MInv σ α) (hg : DT g (tT α)) : MD σ (sA (sG σ i_M 0 0) i_m_dets g) α :=
  ⟨(M_thr h 0).a (by decide), (M_ceq σ).a (by decide), by rw [sA_eq]; exact hg⟩
theorem MD.p {σ ω : sg} {x : aW} {α : aS} {v : Int32} (h : MD σ ω α) : MPost σ x v α (some (.int v)) (wd ω x) := MPost.i h.1 h.2.1
noncomputable def opDet (α : aS) (r c : Int32) : Int32 := by classical exact if (¬ (tT α).1 = 0 ∧ sqI (tT α) r c) then dD (tT α).2.2 r.toNatClampNeg c.toNatClampNeg else -1000000
theorem mo_det {σ : sg} {x : aW} {α : aS} (h : MInv σ α) (ok : aOK α) (r c : Int32) : Mt mX11_det 2 0 0 [.ref i_M, .int r, .int c] (wd σ x) (MPost σ x (opDet α r c) α) := by
  refine Mt.of MI_X11_det (Nat.le_of_ble_eq_true rfl) (fun X hC hR hT => ?_)
  have hT1 : σ.2.2 i_m_now 36 = nI (tT α).1 := h.2.1.1
  have hTB : TB (σ.2.2 i_m_now) (tT α) := h.2.1.TB ok.2.2.1
  have h1 := M_thr h 0
  have p1 := pw6 ok.2.2.1.1
  have p2 := pw6 ok.2.2.1.2.1
  have no : ¬ (¬ (tT α).1 = 0 ∧ sqI (tT α) r c) → opDet α r c = -1000000 := fun q => by unfold opDet; rw [if_neg q]
  refine R_aload_n (i := 0) hC dX11_det_0 rfl rfl (R_iconst (v := 0) hC dX11_det_1 (by decide) (R_pI hC dX11_det_2 fl_X11_83 L_M rfl (R_aload_n (i := 0) hC dX11_det_5 rfl rfl (R_gR hC dX11_det_6 fl_X11_13 L_M rfl (R_bipush (v := 36) hC dX11_det_9 (by decide) (R_aI hC dX11_det_11 L_m_now 36 rfl (by decide) (by decide) ?_))))))
  refine R_top (y := nI (tT α).1) hT1 ?_
  refine R_if_eq hC 28 dX11_det_12 (by decide) (fun h12 => ?_) (fun h12 => ?_)
  · refine R_ldc hC dX11_det_28 kc_X11_133 ?_
    exact R_iret hC hT dX11_det_30 rfl (by
    first
    | (rw [no (fun z => z.1 ((T0_iff ok).mp h12))]; exact MPost.i h1 (M_ceq σ))
    | (rw [no (fun z => b2i_0 h25 z.2)]; exact MPost.i h1 (M_ceq σ))
    | (rw [sA_eq, ev, ← hg R C s4 s6 s7]; exact (MD.of h hg).p))
  · refine R_aload_n (i := 0) hC dX11_det_15 rfl rfl (R_aload_n (i := 0) hC dX11_det_16 rfl rfl (R_gR hC dX11_det_17 fl_X11_13 L_M rfl (R_iload_n (i := 1) hC dX11_det_20 rfl rfl (R_iload_n (i := 2) hC dX11_det_21 rfl rfl ?_))))
    refine R_V3i hC hR dX11_det_22 MV_X11_isSquare ml_X11_211 L_M rfl (s_isSquare (sG σ i_M 0 0) x i_m_now L_m_now (tT α) hTB r c) (by decide) ⟨by decide, by decide⟩ (Nat.le_of_ble_eq_true rfl) ?_
    refine R_if_ne hC 31 dX11_det_25 (by decide) (fun h25 => ?_) (fun h25 => ?_)
    · refine R_aload_n (i := 0) hC dX11_det_31 rfl rfl (R_aload_n (i := 0) hC dX11_det_32 rfl rfl (R_gR hC dX11_det_33 fl_X11_13 L_M rfl ?_))
      refine R_V1g hC hR dX11_det_36 MV_X11_laysDets ml_X11_207 L_M rfl (s_laysDets (sG σ i_M 0 0) x i_m_now L_m_now (by decide) (tT α) hTB) (by decide) ⟨by decide, by decide⟩ (Nat.le_of_ble_eq_true rfl) (fun r w1 hq => ?_)
      obtain ⟨rfl, g, rfl, hg⟩ := hq
      have hs := b2i_ne h25
      have n0 : ¬ (tT α).1 = 0 := fun z => h12 ((T0_iff ok).mpr z)
      have ev : opDet α r c = dD (tT α).2.2 r.toNatClampNeg c.toNatClampNeg := by unfold opDet; rw [if_pos ⟨n0, hs⟩]
      obtain ⟨s1, s2, s3, s4, s5, s6, s7⟩ := id hs
      obtain ⟨R, rfl, hR2, hR3⟩ := i32_1 (show 0 < r.toInt by omega)
      obtain ⟨C, rfl, hC2, hC3⟩ := i32_1 (show 0 < c.toInt by omega)
      rw [nI_clamp hR3] at s3 s4 s7 ev
      rw [nI_clamp hC3] at s5 s6 s7 ev
      refine R_aload_n (i := 0) hC dX11_det_39 rfl rfl (R_gR hC dX11_det_40 fl_X11_38 L_M rfl (R_bipush (v := 64) hC dX11_det_43 (by decide) (R_iload_n (i := 1) hC dX11_det_45 rfl rfl (R_imul hC dX11_det_46 (R_iload_n (i := 2) hC dX11_det_47 rfl rfl (R_iadd hC dX11_det_48 (R_aI hC dX11_det_49 L_m_dets (64 * R + C) (n64 R C) (by omega) (by decide) ?_)))))))
      exact R_iret hC hT dX11_det_50 rfl (by
      first
      | (rw [no (fun z => z.1 ((T0_iff ok).mp h12))]; exact MPost.i h1 (M_ceq σ))
      | (rw [no (fun z => b2i_0 h25 z.2)]; exact MPost.i h1 (M_ceq σ))
      | (rw [sA_eq, ev, ← hg R C s4 s6 s7]; exact (MD.of h hg).p))
    · refine R_ldc hC dX11_det_28 kc_X11_133 ?_
      exact R_iret hC hT dX11_det_30 rfl (by
      first
      | (rw [no (fun z => z.1 ((T0_iff ok).mp h12))]; exact MPost.i h1 (M_ceq σ))
      | (rw [no (fun z => b2i_0 h25 z.2)]; exact MPost.i h1 (M_ceq σ))
      | (rw [sA_eq, ev, ← hg R C s4 s6 s7]; exact (MD.of h hg).p))
noncomputable def opTotal (α : aS) : Int32 := by classical exact if (tT α).1 = 0 then -1 else b2i (tot (tT α))
theorem dX11_total_0 : decode cX11_total 0 = .ok (.aload_n 0, 1) := by decide +kernel
theorem dX11_total_1 : decode cX11_total 1 = .ok (.iconst 0, 1) := by decide +kernel
theorem dX11_total_2 : decode cX11_total 2 = .ok (.putfield 83, 3) := by decide +kernel
theorem dX11_total_5 : decode cX11_total 5 = .ok (.aload_n 0, 1) := by decide +kernel
theorem dX11_total_6 : decode cX11_total 6 = .ok (.getfield 13, 3) := by decide +kernel
theorem dX11_total_9 : decode cX11_total 9 = .ok (.bipush 36, 2) := by decide +kernel
theorem dX11_total_11 : decode cX11_total 11 = .ok (.iaload, 1) := by decide +kernel
theorem dX11_total_12 : decode cX11_total 12 = .ok (.ifCond .ne 7, 3) := by decide +kernel
theorem dX11_total_15 : decode cX11_total 15 = .ok (.iconst (-1), 1) := by decide +kernel
theorem dX11_total_16 : decode cX11_total 16 = .ok (.goto 19, 3) := by decide +kernel
theorem dX11_total_19 : decode cX11_total 19 = .ok (.aload_n 0, 1) := by decide +kernel
theorem dX11_total_20 : decode cX11_total 20 = .ok (.aload_n 0, 1) := by decide +kernel
theorem dX11_total_21 : decode cX11_total 21 = .ok (.getfield 13, 3) := by decide +kernel
theorem dX11_total_24 : decode cX11_total 24 = .ok (.invokevirtual 227, 3) := by decide +kernel
theorem dX11_total_27 : decode cX11_total 27 = .ok (.ifCond .eq 7, 3) := by decide +kernel
theorem dX11_total_30 : decode cX11_total 30 = .ok (.iconst 1, 1) := by decide +kernel
theorem dX11_total_31 : decode cX11_total 31 = .ok (.goto 4, 3) := by decide +kernel
theorem dX11_total_34 : decode cX11_total 34 = .ok (.iconst 0, 1) := by decide +kernel
theorem dX11_total_35 : decode cX11_total 35 = .ok (.ireturn, 1) := by decide +kernel
theorem dX11_squares_0 : decode cX11_squares 0 = .ok (.aload_n 0, 1) := by decide +kernel
theorem dX11_squares_1 : decode cX11_squares 1 = .ok (.iconst 0, 1) := by decide +kernel
theorem dX11_squares_2 : decode cX11_squares 2 = .ok (.putfield 83, 3) := by decide +kernel
theorem dX11_squares_5 : decode cX11_squares 5 = .ok (.aload_n 0, 1) := by decide +kernel
theorem dX11_squares_6 : decode cX11_squares 6 = .ok (.getfield 13, 3) := by decide +kernel
theorem dX11_squares_9 : decode cX11_squares 9 = .ok (.bipush 36, 2) := by decide +kernel
theorem dX11_squares_11 : decode cX11_squares 11 = .ok (.iaload, 1) := by decide +kernel
theorem dX11_squares_12 : decode cX11_squares 12 = .ok (.ifCond .eq 27, 3) := by decide +kernel
theorem dX11_squares_15 : decode cX11_squares 15 = .ok (.iload_n 1, 1) := by decide +kernel
theorem dX11_squares_16 : decode cX11_squares 16 = .ok (.i2l, 1) := by decide +kernel
theorem dX11_squares_17 : decode cX11_squares 17 = .ok (.lconst 1, 1) := by decide +kernel
theorem dX11_squares_18 : decode cX11_squares 18 = .ok (.ldc2_w 214, 3) := by decide +kernel
theorem dX11_squares_21 : decode cX11_squares 21 = .ok (.invokestatic 140, 3) := by decide +kernel
theorem dX11_squares_24 : decode cX11_squares 24 = .ok (.ifCond .eq 15, 3) := by decide +kernel
theorem dX11_squares_27 : decode cX11_squares 27 = .ok (.iload_n 2, 1) := by decide +kernel
theorem dX11_squares_28 : decode cX11_squares 28 = .ok (.i2l, 1) := by decide +kernel
theorem dX11_squares_29 : decode cX11_squares 29 = .ok (.lconst 0, 1) := by decide +kernel
theorem dX11_squares_30 : decode cX11_squares 30 = .ok (.ldc2_w 216, 3) := by decide +kernel
theorem dX11_squares_33 : decode cX11_squares 33 = .ok (.invokestatic 140, 3) := by decide +kernel
theorem dX11_squares_36 : decode cX11_squares 36 = .ok (.ifCond .ne 5, 3) := by decide +kernel
theorem dX11_squares_39 : decode cX11_squares 39 = .ok (.iconst (-1), 1) := by decide +kernel
theorem dX11_squares_40 : decode cX11_squares 40 = .ok (.ireturn, 1) := by decide +kernel
theorem dX11_squares_41 : decode cX11_squares 41 = .ok (.aload_n 0, 1) := by decide +kernel
theorem dX11_squares_42 : decode cX11_squares 42 = .ok (.aload_n 0, 1) := by decide +kernel
theorem dX11_squares_43 : decode cX11_squares 43 = .ok (.getfield 13, 3) := by decide +kernel
theorem dX11_squares_46 : decode cX11_squares 46 = .ok (.invokevirtual 207, 3) := by decide +kernel
theorem dX11_squares_49 : decode cX11_squares 49 = .ok (.iconst 0, 1) := by decide +kernel
theorem dX11_squares_50 : decode cX11_squares 50 = .ok (.istore_n 3, 1) := by decide +kernel
theorem dX11_squares_51 : decode cX11_squares 51 = .ok (.iconst 1, 1) := by decide +kernel
theorem dX11_squares_52 : decode cX11_squares 52 = .ok (.istore 4, 2) := by decide +kernel
theorem dX11_squares_54 : decode cX11_squares 54 = .ok (.iload 4, 2) := by decide +kernel
theorem dX11_squares_56 : decode cX11_squares 56 = .ok (.iconst 1, 1) := by decide +kernel
theorem dX11_squares_57 : decode cX11_squares 57 = .ok (.aload_n 0, 1) := by decide +kernel
theorem dX11_squares_58 : decode cX11_squares 58 = .ok (.getfield 13, 3) := by decide +kernel
theorem dX11_squares_61 : decode cX11_squares 61 = .ok (.bipush 36, 2) := by decide +kernel
theorem dX11_squares_63 : decode cX11_squares 63 = .ok (.iaload, 1) := by decide +kernel
theorem dX11_squares_64 : decode cX11_squares 64 = .ok (.ishl, 1) := by decide +kernel
theorem dX11_squares_65 : decode cX11_squares 65 = .ok (.if_icmp .ge 89, 3) := by decide +kernel
theorem dX11_squares_68 : decode cX11_squares 68 = .ok (.iconst 1, 1) := by decide +kernel
theorem dX11_squares_69 : decode cX11_squares 69 = .ok (.istore 5, 2) := by decide +kernel
theorem dX11_squares_71 : decode cX11_squares 71 = .ok (.iload 5, 2) := by decide +kernel
theorem dX11_squares_73 : decode cX11_squares 73 = .ok (.iconst 1, 1) := by decide +kernel
theorem dX11_squares_74 : decode cX11_squares 74 = .ok (.aload_n 0, 1) := by decide +kernel
theorem dX11_squares_75 : decode cX11_squares 75 = .ok (.getfield 13, 3) := by decide +kernel
theorem dX11_squares_78 : decode cX11_squares 78 = .ok (.bipush 37, 2) := by decide +kernel
theorem dX11_squares_80 : decode cX11_squares 80 = .ok (.iaload, 1) := by decide +kernel
theorem dX11_squares_81 : decode cX11_squares 81 = .ok (.ishl, 1) := by decide +kernel
theorem dX11_squares_82 : decode cX11_squares 82 = .ok (.if_icmp .ge 66, 3) := by decide +kernel
theorem dX11_squares_85 : decode cX11_squares 85 = .ok (.iload 4, 2) := by decide +kernel
theorem dX11_squares_87 : decode cX11_squares 87 = .ok (.invokestatic 204, 3) := by decide +kernel
theorem dX11_squares_90 : decode cX11_squares 90 = .ok (.iload_n 1, 1) := by decide +kernel
theorem dX11_squares_91 : decode cX11_squares 91 = .ok (.if_icmp .ne 57, 3) := by decide +kernel
theorem dX11_squares_94 : decode cX11_squares 94 = .ok (.iload 5, 2) := by decide +kernel
theorem dX11_squares_96 : decode cX11_squares 96 = .ok (.invokestatic 204, 3) := by decide +kernel
theorem dX11_squares_99 : decode cX11_squares 99 = .ok (.iload_n 1, 1) := by decide +kernel
theorem dX11_squares_100 : decode cX11_squares 100 = .ok (.if_icmp .eq 6, 3) := by decide +kernel
theorem dX11_squares_103 : decode cX11_squares 103 = .ok (.goto 39, 3) := by decide +kernel
theorem dX11_squares_106 : decode cX11_squares 106 = .ok (.aload_n 0, 1) := by decide +kernel
theorem dX11_squares_107 : decode cX11_squares 107 = .ok (.getfield 38, 3) := by decide +kernel
theorem dX11_squares_110 : decode cX11_squares 110 = .ok (.bipush 64, 2) := by decide +kernel
theorem dX11_squares_112 : decode cX11_squares 112 = .ok (.iload 4, 2) := by decide +kernel
theorem dX11_squares_114 : decode cX11_squares 114 = .ok (.imul, 1) := by decide +kernel
theorem dX11_squares_115 : decode cX11_squares 115 = .ok (.iload 5, 2) := by decide +kernel
theorem dX11_squares_117 : decode cX11_squares 117 = .ok (.iadd, 1) := by decide +kernel
theorem dX11_squares_118 : decode cX11_squares 118 = .ok (.iaload, 1) := by decide +kernel
theorem dX11_squares_119 : decode cX11_squares 119 = .ok (.invokestatic 218, 3) := by decide +kernel
theorem dX11_squares_122 : decode cX11_squares 122 = .ok (.istore 6, 2) := by decide +kernel
theorem dX11_squares_124 : decode cX11_squares 124 = .ok (.iload_n 3, 1) := by decide +kernel
theorem dX11_squares_125 : decode cX11_squares 125 = .ok (.iconst 2, 1) := by decide +kernel
theorem dX11_squares_126 : decode cX11_squares 126 = .ok (.iload 6, 2) := by decide +kernel
theorem dX11_squares_128 : decode cX11_squares 128 = .ok (.invokestatic 223, 3) := by decide +kernel
theorem dX11_squares_131 : decode cX11_squares 131 = .ok (.iload_n 2, 1) := by decide +kernel
theorem dX11_squares_132 : decode cX11_squares 132 = .ok (.if_icmp .ne 7, 3) := by decide +kernel
theorem dX11_squares_135 : decode cX11_squares 135 = .ok (.iconst 1, 1) := by decide +kernel
theorem dX11_squares_136 : decode cX11_squares 136 = .ok (.goto 4, 3) := by decide +kernel
theorem dX11_squares_139 : decode cX11_squares 139 = .ok (.iconst 0, 1) := by decide +kernel
theorem dX11_squares_140 : decode cX11_squares 140 = .ok (.iadd, 1) := by decide +kernel
theorem dX11_squares_141 : decode cX11_squares 141 = .ok (.istore_n 3, 1) := by decide +kernel
theorem dX11_squares_142 : decode cX11_squares 142 = .ok (.iinc 5 1, 3) := by decide +kernel
theorem dX11_squares_145 : decode cX11_squares 145 = .ok (.goto (-74), 3) := by decide +kernel
theorem dX11_squares_148 : decode cX11_squares 148 = .ok (.iinc 4 1, 3) := by decide +kernel
theorem dX11_squares_151 : decode cX11_squares 151 = .ok (.goto (-97), 3) := by decide +kernel
theorem dX11_squares_154 : decode cX11_squares 154 = .ok (.iload_n 3, 1) := by decide +kernel
theorem dX11_squares_155 : decode cX11_squares 155 = .ok (.ireturn, 1) := by decide +kernel
theorem dX11_rank_0 : decode cX11_rank 0 = .ok (.aload_n 0, 1) := by decide +kernel
theorem dX11_rank_1 : decode cX11_rank 1 = .ok (.iconst 0, 1) := by decide +kernel
theorem dX11_rank_2 : decode cX11_rank 2 = .ok (.putfield 83, 3) := by decide +kernel
theorem dX11_rank_5 : decode cX11_rank 5 = .ok (.aload_n 0, 1) := by decide +kernel
theorem dX11_rank_6 : decode cX11_rank 6 = .ok (.getfield 13, 3) := by decide +kernel
theorem dX11_rank_9 : decode cX11_rank 9 = .ok (.bipush 36, 2) := by decide +kernel
theorem dX11_rank_11 : decode cX11_rank 11 = .ok (.iaload, 1) := by decide +kernel
theorem dX11_rank_12 : decode cX11_rank 12 = .ok (.ifCond .eq 17, 3) := by decide +kernel
theorem dX11_rank_15 : decode cX11_rank 15 = .ok (.iload_n 1, 1) := by decide +kernel
theorem dX11_rank_16 : decode cX11_rank 16 = .ok (.ifCond .eq 15, 3) := by decide +kernel
theorem dX11_rank_19 : decode cX11_rank 19 = .ok (.iload_n 1, 1) := by decide +kernel
theorem dX11_rank_20 : decode cX11_rank 20 = .ok (.iconst 2, 1) := by decide +kernel
theorem dX11_rank_21 : decode cX11_rank 21 = .ok (.if_icmp .eq 10, 3) := by decide +kernel
theorem dX11_rank_24 : decode cX11_rank 24 = .ok (.iload_n 1, 1) := by decide +kernel
theorem dX11_rank_25 : decode cX11_rank 25 = .ok (.iconst 3, 1) := by decide +kernel
theorem dX11_rank_26 : decode cX11_rank 26 = .ok (.if_icmp .eq 5, 3) := by decide +kernel
theorem dX11_rank_29 : decode cX11_rank 29 = .ok (.iconst (-1), 1) := by decide +kernel
theorem dX11_rank_30 : decode cX11_rank 30 = .ok (.ireturn, 1) := by decide +kernel
theorem dX11_rank_31 : decode cX11_rank 31 = .ok (.aload_n 0, 1) := by decide +kernel
theorem dX11_rank_32 : decode cX11_rank 32 = .ok (.aload_n 0, 1) := by decide +kernel
theorem dX11_rank_33 : decode cX11_rank 33 = .ok (.getfield 13, 3) := by decide +kernel
theorem dX11_rank_36 : decode cX11_rank 36 = .ok (.invokevirtual 207, 3) := by decide +kernel
theorem dX11_rank_39 : decode cX11_rank 39 = .ok (.iconst 0, 1) := by decide +kernel
theorem dX11_rank_40 : decode cX11_rank 40 = .ok (.istore_n 2, 1) := by decide +kernel
theorem dX11_rank_41 : decode cX11_rank 41 = .ok (.iconst 1, 1) := by decide +kernel
theorem dX11_rank_42 : decode cX11_rank 42 = .ok (.istore_n 3, 1) := by decide +kernel
theorem dX11_rank_43 : decode cX11_rank 43 = .ok (.iload_n 3, 1) := by decide +kernel
theorem dX11_rank_44 : decode cX11_rank 44 = .ok (.iconst 1, 1) := by decide +kernel
theorem dX11_rank_45 : decode cX11_rank 45 = .ok (.aload_n 0, 1) := by decide +kernel
theorem dX11_rank_46 : decode cX11_rank 46 = .ok (.getfield 13, 3) := by decide +kernel
theorem dX11_rank_49 : decode cX11_rank 49 = .ok (.bipush 36, 2) := by decide +kernel
theorem dX11_rank_51 : decode cX11_rank 51 = .ok (.iaload, 1) := by decide +kernel
theorem dX11_rank_52 : decode cX11_rank 52 = .ok (.ishl, 1) := by decide +kernel
theorem dX11_rank_53 : decode cX11_rank 53 = .ok (.if_icmp .ge 89, 3) := by decide +kernel
theorem dX11_rank_56 : decode cX11_rank 56 = .ok (.iconst 1, 1) := by decide +kernel
theorem dX11_rank_57 : decode cX11_rank 57 = .ok (.istore 4, 2) := by decide +kernel
theorem dX11_rank_59 : decode cX11_rank 59 = .ok (.iload 4, 2) := by decide +kernel
theorem dX11_rank_61 : decode cX11_rank 61 = .ok (.iconst 1, 1) := by decide +kernel
theorem dX11_rank_62 : decode cX11_rank 62 = .ok (.aload_n 0, 1) := by decide +kernel
theorem dX11_rank_63 : decode cX11_rank 63 = .ok (.getfield 13, 3) := by decide +kernel
theorem dX11_rank_66 : decode cX11_rank 66 = .ok (.bipush 37, 2) := by decide +kernel
theorem dX11_rank_68 : decode cX11_rank 68 = .ok (.iaload, 1) := by decide +kernel
theorem dX11_rank_69 : decode cX11_rank 69 = .ok (.ishl, 1) := by decide +kernel
theorem dX11_rank_70 : decode cX11_rank 70 = .ok (.if_icmp .ge 66, 3) := by decide +kernel
theorem dX11_rank_73 : decode cX11_rank 73 = .ok (.iload_n 3, 1) := by decide +kernel
theorem dX11_rank_74 : decode cX11_rank 74 = .ok (.invokestatic 204, 3) := by decide +kernel
theorem dX11_rank_77 : decode cX11_rank 77 = .ok (.iload 4, 2) := by decide +kernel
theorem dX11_rank_79 : decode cX11_rank 79 = .ok (.invokestatic 204, 3) := by decide +kernel
theorem dX11_rank_82 : decode cX11_rank 82 = .ok (.if_icmp .eq 6, 3) := by decide +kernel
theorem dX11_rank_85 : decode cX11_rank 85 = .ok (.goto 45, 3) := by decide +kernel
theorem dX11_rank_88 : decode cX11_rank 88 = .ok (.aload_n 0, 1) := by decide +kernel
theorem dX11_rank_89 : decode cX11_rank 89 = .ok (.getfield 38, 3) := by decide +kernel
theorem dX11_rank_92 : decode cX11_rank 92 = .ok (.bipush 64, 2) := by decide +kernel
theorem dX11_rank_94 : decode cX11_rank 94 = .ok (.iload_n 3, 1) := by decide +kernel
theorem dX11_rank_95 : decode cX11_rank 95 = .ok (.imul, 1) := by decide +kernel
theorem dX11_rank_96 : decode cX11_rank 96 = .ok (.iload 4, 2) := by decide +kernel
theorem dX11_rank_98 : decode cX11_rank 98 = .ok (.iadd, 1) := by decide +kernel
theorem dX11_rank_99 : decode cX11_rank 99 = .ok (.iaload, 1) := by decide +kernel
theorem dX11_rank_100 : decode cX11_rank 100 = .ok (.istore 5, 2) := by decide +kernel
theorem dX11_rank_102 : decode cX11_rank 102 = .ok (.iload_n 1, 1) := by decide +kernel
theorem dX11_rank_103 : decode cX11_rank 103 = .ok (.ifCond .ne 11, 3) := by decide +kernel
theorem dX11_rank_106 : decode cX11_rank 106 = .ok (.iload 5, 2) := by decide +kernel
theorem dX11_rank_108 : decode cX11_rank 108 = .ok (.ifCond .eq 22, 3) := by decide +kernel
theorem dX11_rank_111 : decode cX11_rank 111 = .ok (.goto 10, 3) := by decide +kernel
theorem dX11_rank_114 : decode cX11_rank 114 = .ok (.iload 5, 2) := by decide +kernel
theorem dX11_rank_116 : decode cX11_rank 116 = .ok (.iload_n 1, 1) := by decide +kernel
theorem dX11_rank_117 : decode cX11_rank 117 = .ok (.irem, 1) := by decide +kernel
theorem dX11_rank_118 : decode cX11_rank 118 = .ok (.ifCond .eq 12, 3) := by decide +kernel
theorem dX11_rank_121 : decode cX11_rank 121 = .ok (.iload_n 2, 1) := by decide +kernel
theorem dX11_rank_122 : decode cX11_rank 122 = .ok (.iload_n 3, 1) := by decide +kernel
theorem dX11_rank_123 : decode cX11_rank 123 = .ok (.invokestatic 204, 3) := by decide +kernel
theorem dX11_rank_126 : decode cX11_rank 126 = .ok (.invokestatic 304, 3) := by decide +kernel
theorem dX11_rank_129 : decode cX11_rank 129 = .ok (.istore_n 2, 1) := by decide +kernel
theorem dX11_rank_130 : decode cX11_rank 130 = .ok (.iinc 4 1, 3) := by decide +kernel
theorem dX11_rank_133 : decode cX11_rank 133 = .ok (.goto (-74), 3) := by decide +kernel
theorem dX11_rank_136 : decode cX11_rank 136 = .ok (.iinc 3 1, 3) := by decide +kernel
theorem dX11_rank_139 : decode cX11_rank 139 = .ok (.goto (-96), 3) := by decide +kernel
theorem dX11_rank_142 : decode cX11_rank 142 = .ok (.iload_n 2, 1) := by decide +kernel
theorem dX11_rank_143 : decode cX11_rank 143 = .ok (.ireturn, 1) := by decide +kernel
theorem dX11_bases_0 : decode cX11_bases 0 = .ok (.aload_n 0, 1) := by decide +kernel
theorem dX11_bases_1 : decode cX11_bases 1 = .ok (.iconst 0, 1) := by decide +kernel
theorem dX11_bases_2 : decode cX11_bases 2 = .ok (.putfield 83, 3) := by decide +kernel
theorem dX11_bases_5 : decode cX11_bases 5 = .ok (.aload_n 0, 1) := by decide +kernel
theorem dX11_bases_6 : decode cX11_bases 6 = .ok (.getfield 13, 3) := by decide +kernel
theorem dX11_bases_9 : decode cX11_bases 9 = .ok (.bipush 36, 2) := by decide +kernel
theorem dX11_bases_11 : decode cX11_bases 11 = .ok (.iaload, 1) := by decide +kernel
theorem dX11_bases_12 : decode cX11_bases 12 = .ok (.ifCond .ne 5, 3) := by decide +kernel
theorem dX11_bases_15 : decode cX11_bases 15 = .ok (.iconst (-1), 1) := by decide +kernel
theorem dX11_bases_16 : decode cX11_bases 16 = .ok (.ireturn, 1) := by decide +kernel
theorem dX11_bases_17 : decode cX11_bases 17 = .ok (.aload_n 0, 1) := by decide +kernel
theorem dX11_bases_18 : decode cX11_bases 18 = .ok (.aload_n 0, 1) := by decide +kernel
theorem dX11_bases_19 : decode cX11_bases 19 = .ok (.getfield 13, 3) := by decide +kernel
theorem dX11_bases_22 : decode cX11_bases 22 = .ok (.invokevirtual 207, 3) := by decide +kernel
theorem dX11_bases_25 : decode cX11_bases 25 = .ok (.iconst 1, 1) := by decide +kernel
theorem dX11_bases_26 : decode cX11_bases 26 = .ok (.istore_n 1, 1) := by decide +kernel
theorem dX11_bases_27 : decode cX11_bases 27 = .ok (.iconst 1, 1) := by decide +kernel
theorem dX11_bases_28 : decode cX11_bases 28 = .ok (.istore_n 2, 1) := by decide +kernel
theorem dX11_bases_29 : decode cX11_bases 29 = .ok (.iload_n 2, 1) := by decide +kernel
theorem dX11_bases_30 : decode cX11_bases 30 = .ok (.iconst 1, 1) := by decide +kernel
theorem dX11_bases_31 : decode cX11_bases 31 = .ok (.aload_n 0, 1) := by decide +kernel
theorem dX11_bases_32 : decode cX11_bases 32 = .ok (.getfield 13, 3) := by decide +kernel
theorem dX11_bases_35 : decode cX11_bases 35 = .ok (.bipush 36, 2) := by decide +kernel
theorem dX11_bases_37 : decode cX11_bases 37 = .ok (.iaload, 1) := by decide +kernel
theorem dX11_bases_38 : decode cX11_bases 38 = .ok (.ishl, 1) := by decide +kernel
theorem dX11_bases_39 : decode cX11_bases 39 = .ok (.if_icmp .ge 66, 3) := by decide +kernel
theorem dX11_bases_42 : decode cX11_bases 42 = .ok (.iconst 1, 1) := by decide +kernel
theorem dX11_bases_43 : decode cX11_bases 43 = .ok (.istore_n 3, 1) := by decide +kernel
theorem dX11_bases_44 : decode cX11_bases 44 = .ok (.iload_n 3, 1) := by decide +kernel
theorem dX11_bases_45 : decode cX11_bases 45 = .ok (.iconst 1, 1) := by decide +kernel
theorem dX11_bases_46 : decode cX11_bases 46 = .ok (.aload_n 0, 1) := by decide +kernel
theorem dX11_bases_47 : decode cX11_bases 47 = .ok (.getfield 13, 3) := by decide +kernel
theorem dX11_bases_50 : decode cX11_bases 50 = .ok (.bipush 37, 2) := by decide +kernel
theorem dX11_bases_52 : decode cX11_bases 52 = .ok (.iaload, 1) := by decide +kernel
theorem dX11_bases_53 : decode cX11_bases 53 = .ok (.ishl, 1) := by decide +kernel
theorem dX11_bases_54 : decode cX11_bases 54 = .ok (.if_icmp .ge 45, 3) := by decide +kernel
theorem dX11_bases_57 : decode cX11_bases 57 = .ok (.iload_n 2, 1) := by decide +kernel
theorem dX11_bases_58 : decode cX11_bases 58 = .ok (.invokestatic 204, 3) := by decide +kernel
theorem dX11_bases_61 : decode cX11_bases 61 = .ok (.iload_n 3, 1) := by decide +kernel
theorem dX11_bases_62 : decode cX11_bases 62 = .ok (.invokestatic 204, 3) := by decide +kernel
theorem dX11_bases_65 : decode cX11_bases 65 = .ok (.if_icmp .eq 6, 3) := by decide +kernel
theorem dX11_bases_68 : decode cX11_bases 68 = .ok (.goto 25, 3) := by decide +kernel
theorem dX11_bases_71 : decode cX11_bases 71 = .ok (.iload_n 1, 1) := by decide +kernel
theorem dX11_bases_72 : decode cX11_bases 72 = .ok (.aload_n 0, 1) := by decide +kernel
theorem dX11_bases_73 : decode cX11_bases 73 = .ok (.getfield 38, 3) := by decide +kernel
theorem dX11_bases_76 : decode cX11_bases 76 = .ok (.bipush 64, 2) := by decide +kernel
theorem dX11_bases_78 : decode cX11_bases 78 = .ok (.iload_n 2, 1) := by decide +kernel
theorem dX11_bases_79 : decode cX11_bases 79 = .ok (.imul, 1) := by decide +kernel
theorem dX11_bases_80 : decode cX11_bases 80 = .ok (.iload_n 3, 1) := by decide +kernel
theorem dX11_bases_81 : decode cX11_bases 81 = .ok (.iadd, 1) := by decide +kernel
theorem dX11_bases_82 : decode cX11_bases 82 = .ok (.iaload, 1) := by decide +kernel
theorem dX11_bases_83 : decode cX11_bases 83 = .ok (.ifCond .ne 7, 3) := by decide +kernel
theorem dX11_bases_86 : decode cX11_bases 86 = .ok (.iconst 0, 1) := by decide +kernel
theorem dX11_bases_87 : decode cX11_bases 87 = .ok (.goto 4, 3) := by decide +kernel
theorem dX11_bases_90 : decode cX11_bases 90 = .ok (.iconst 1, 1) := by decide +kernel
theorem dX11_bases_91 : decode cX11_bases 91 = .ok (.iadd, 1) := by decide +kernel
theorem dX11_bases_92 : decode cX11_bases 92 = .ok (.istore_n 1, 1) := by decide +kernel
theorem dX11_bases_93 : decode cX11_bases 93 = .ok (.iinc 3 1, 3) := by decide +kernel
theorem dX11_bases_96 : decode cX11_bases 96 = .ok (.goto (-52), 3) := by decide +kernel
theorem dX11_bases_99 : decode cX11_bases 99 = .ok (.iinc 2 1, 3) := by decide +kernel
theorem dX11_bases_102 : decode cX11_bases 102 = .ok (.goto (-73), 3) := by decide +kernel
theorem dX11_bases_105 : decode cX11_bases 105 = .ok (.iload_n 1, 1) := by decide +kernel
theorem dX11_bases_106 : decode cX11_bases 106 = .ok (.ireturn, 1) := by decide +kernel
theorem dX11_adjoint_0 : decode cX11_adjoint 0 = .ok (.aload_n 0, 1) := by decide +kernel
theorem dX11_adjoint_1 : decode cX11_adjoint 1 = .ok (.iconst 0, 1) := by decide +kernel
theorem dX11_adjoint_2 : decode cX11_adjoint 2 = .ok (.putfield 83, 3) := by decide +kernel
theorem dX11_adjoint_5 : decode cX11_adjoint 5 = .ok (.aload_n 0, 1) := by decide +kernel
theorem dX11_adjoint_6 : decode cX11_adjoint 6 = .ok (.aload_n 0, 1) := by decide +kernel
theorem dX11_adjoint_7 : decode cX11_adjoint 7 = .ok (.getfield 13, 3) := by decide +kernel
theorem dX11_adjoint_10 : decode cX11_adjoint 10 = .ok (.iload_n 1, 1) := by decide +kernel
theorem dX11_adjoint_11 : decode cX11_adjoint 11 = .ok (.iload_n 2, 1) := by decide +kernel
theorem dX11_adjoint_12 : decode cX11_adjoint 12 = .ok (.invokevirtual 158, 3) := by decide +kernel
theorem dX11_adjoint_15 : decode cX11_adjoint 15 = .ok (.ifCond .eq 20, 3) := by decide +kernel
theorem dX11_adjoint_18 : decode cX11_adjoint 18 = .ok (.aload_n 0, 1) := by decide +kernel
theorem dX11_adjoint_19 : decode cX11_adjoint 19 = .ok (.getfield 13, 3) := by decide +kernel
theorem dX11_adjoint_22 : decode cX11_adjoint 22 = .ok (.bipush 36, 2) := by decide +kernel
theorem dX11_adjoint_24 : decode cX11_adjoint 24 = .ok (.iaload, 1) := by decide +kernel
theorem dX11_adjoint_25 : decode cX11_adjoint 25 = .ok (.aload_n 0, 1) := by decide +kernel
theorem dX11_adjoint_26 : decode cX11_adjoint 26 = .ok (.getfield 13, 3) := by decide +kernel
theorem dX11_adjoint_29 : decode cX11_adjoint 29 = .ok (.bipush 37, 2) := by decide +kernel
theorem dX11_adjoint_31 : decode cX11_adjoint 31 = .ok (.iaload, 1) := by decide +kernel
theorem dX11_adjoint_32 : decode cX11_adjoint 32 = .ok (.if_icmp .eq 6, 3) := by decide +kernel
theorem dX11_adjoint_35 : decode cX11_adjoint 35 = .ok (.ldc 133, 2) := by decide +kernel
theorem dX11_adjoint_37 : decode cX11_adjoint 37 = .ok (.ireturn, 1) := by decide +kernel
theorem dX11_adjoint_38 : decode cX11_adjoint 38 = .ok (.aload_n 0, 1) := by decide +kernel
theorem dX11_adjoint_39 : decode cX11_adjoint 39 = .ok (.aload_n 0, 1) := by decide +kernel
theorem dX11_adjoint_40 : decode cX11_adjoint 40 = .ok (.getfield 13, 3) := by decide +kernel
theorem dX11_adjoint_43 : decode cX11_adjoint 43 = .ok (.invokevirtual 207, 3) := by decide +kernel
theorem dX11_adjoint_46 : decode cX11_adjoint 46 = .ok (.iconst 1, 1) := by decide +kernel
theorem dX11_adjoint_47 : decode cX11_adjoint 47 = .ok (.aload_n 0, 1) := by decide +kernel
theorem dX11_adjoint_48 : decode cX11_adjoint 48 = .ok (.getfield 13, 3) := by decide +kernel
theorem dX11_adjoint_51 : decode cX11_adjoint 51 = .ok (.bipush 36, 2) := by decide +kernel
theorem dX11_adjoint_53 : decode cX11_adjoint 53 = .ok (.iaload, 1) := by decide +kernel
theorem dX11_adjoint_54 : decode cX11_adjoint 54 = .ok (.ishl, 1) := by decide +kernel
theorem dX11_adjoint_55 : decode cX11_adjoint 55 = .ok (.iconst 1, 1) := by decide +kernel
theorem dX11_adjoint_56 : decode cX11_adjoint 56 = .ok (.isub, 1) := by decide +kernel
theorem dX11_adjoint_57 : decode cX11_adjoint 57 = .ok (.istore_n 3, 1) := by decide +kernel
theorem dX11_adjoint_58 : decode cX11_adjoint 58 = .ok (.aload_n 0, 1) := by decide +kernel
theorem dX11_adjoint_59 : decode cX11_adjoint 59 = .ok (.getfield 38, 3) := by decide +kernel
theorem dX11_adjoint_62 : decode cX11_adjoint 62 = .ok (.bipush 64, 2) := by decide +kernel
theorem dX11_adjoint_64 : decode cX11_adjoint 64 = .ok (.iload_n 3, 1) := by decide +kernel
theorem dX11_adjoint_65 : decode cX11_adjoint 65 = .ok (.iconst 1, 1) := by decide +kernel
theorem dX11_adjoint_66 : decode cX11_adjoint 66 = .ok (.iload_n 2, 1) := by decide +kernel
theorem dX11_adjoint_67 : decode cX11_adjoint 67 = .ok (.ishl, 1) := by decide +kernel
theorem dX11_adjoint_68 : decode cX11_adjoint 68 = .ok (.iconst (-1), 1) := by decide +kernel
theorem dX11_adjoint_69 : decode cX11_adjoint 69 = .ok (.ixor, 1) := by decide +kernel
theorem dX11_adjoint_70 : decode cX11_adjoint 70 = .ok (.iand, 1) := by decide +kernel
theorem dX11_adjoint_71 : decode cX11_adjoint 71 = .ok (.imul, 1) := by decide +kernel
theorem dX11_adjoint_72 : decode cX11_adjoint 72 = .ok (.iload_n 3, 1) := by decide +kernel
theorem dX11_adjoint_73 : decode cX11_adjoint 73 = .ok (.iconst 1, 1) := by decide +kernel
theorem dX11_adjoint_74 : decode cX11_adjoint 74 = .ok (.iload_n 1, 1) := by decide +kernel
theorem dX11_adjoint_75 : decode cX11_adjoint 75 = .ok (.ishl, 1) := by decide +kernel
theorem dX11_adjoint_76 : decode cX11_adjoint 76 = .ok (.iconst (-1), 1) := by decide +kernel
theorem dX11_adjoint_77 : decode cX11_adjoint 77 = .ok (.ixor, 1) := by decide +kernel
theorem dX11_adjoint_78 : decode cX11_adjoint 78 = .ok (.iand, 1) := by decide +kernel
theorem dX11_adjoint_79 : decode cX11_adjoint 79 = .ok (.iadd, 1) := by decide +kernel
theorem dX11_adjoint_80 : decode cX11_adjoint 80 = .ok (.iaload, 1) := by decide +kernel
theorem dX11_adjoint_81 : decode cX11_adjoint 81 = .ok (.istore 4, 2) := by decide +kernel
theorem dX11_adjoint_83 : decode cX11_adjoint 83 = .ok (.iload_n 1, 1) := by decide +kernel
theorem dX11_adjoint_84 : decode cX11_adjoint 84 = .ok (.iload_n 2, 1) := by decide +kernel
theorem dX11_adjoint_85 : decode cX11_adjoint 85 = .ok (.iadd, 1) := by decide +kernel
theorem dX11_adjoint_86 : decode cX11_adjoint 86 = .ok (.iconst 2, 1) := by decide +kernel
theorem dX11_adjoint_87 : decode cX11_adjoint 87 = .ok (.irem, 1) := by decide +kernel
theorem dX11_adjoint_88 : decode cX11_adjoint 88 = .ok (.ifCond .ne 8, 3) := by decide +kernel
theorem dX11_adjoint_91 : decode cX11_adjoint 91 = .ok (.iload 4, 2) := by decide +kernel
theorem dX11_adjoint_93 : decode cX11_adjoint 93 = .ok (.goto 6, 3) := by decide +kernel
theorem dX11_adjoint_96 : decode cX11_adjoint 96 = .ok (.iload 4, 2) := by decide +kernel
theorem dX11_adjoint_98 : decode cX11_adjoint 98 = .ok (.ineg, 1) := by decide +kernel
theorem dX11_adjoint_99 : decode cX11_adjoint 99 = .ok (.ireturn, 1) := by decide +kernel
theorem mo_total {σ : sg} {x : aW} {α : aS} (h : MInv σ α) (ok : aOK α) : Mt mX11_total 3 0 0 [.ref i_M] (wd σ x) (MPost σ x (opTotal α) α) := by
  refine Mt.of MI_X11_total (Nat.le_of_ble_eq_true rfl) (fun X hC hR hT => ?_)
  have hT1 : σ.2.2 i_m_now 36 = nI (tT α).1 := h.2.1.1
  have hTB : TB (σ.2.2 i_m_now) (tT α) := h.2.1.TB ok.2.2.1
  have h1 := M_thr h 0
  refine R_aload_n (i := 0) hC dX11_total_0 rfl rfl (R_iconst (v := 0) hC dX11_total_1 (by decide) (R_pI hC dX11_total_2 fl_X11_83 L_M rfl (R_aload_n (i := 0) hC dX11_total_5 rfl rfl (R_gR hC dX11_total_6 fl_X11_13 L_M rfl (R_bipush (v := 36) hC dX11_total_9 (by decide) (R_aI hC dX11_total_11 L_m_now 36 rfl (by decide) (by decide) ?_))))))
  refine R_top (y := nI (tT α).1) hT1 ?_
  refine R_if_ne hC 19 dX11_total_12 (by decide) (fun h12 => ?_) (fun h12 => ?_)
  · refine R_aload_n (i := 0) hC dX11_total_19 rfl rfl (R_aload_n (i := 0) hC dX11_total_20 rfl rfl (R_gR hC dX11_total_21 fl_X11_13 L_M rfl ?_))
    refine R_V1g hC hR dX11_total_24 MV_X11_isTotal ml_X11_227 L_M rfl (s_isTotal (sG σ i_M 0 0) x i_m_now L_m_now (by decide) (tT α) hTB) (by decide) ⟨by decide, by decide⟩ (Nat.le_of_ble_eq_true rfl) (fun r w1 hq => ?_)
    obtain ⟨rfl, g, rfl, hg⟩ := hq
    refine R_if_eq hC 34 dX11_total_27 (by decide) (fun h27 => ?_) (fun h27 => ?_)
    · refine R_iconst (v := 0) hC dX11_total_34 (by decide) ?_
      exact R_iret hC hT dX11_total_35 rfl (by
      have ev : ¬ nI (tT α).1 = 0 → opTotal α = b2i (tot (tT α)) := fun z => by unfold opTotal; rw [if_neg (fun y => z ((T0_iff ok).mpr y))]
      first
      | (rw [ev h12, b2i_t (b2i_ne h27)]; exact (MD.of h hg).p)
      | (have h28 := h27; rw [ev h12, b2i_f (b2i_0 h28)]; exact (MD.of h hg).p)
      | (have e : opTotal α = -1 := (by unfold opTotal; rw [if_pos ((T0_iff ok).mp h12)]); rw [e]; exact MPost.i h1 (M_ceq σ)))
    · refine R_iconst (v := 1) hC dX11_total_30 (by decide) (R_goto hC 35 dX11_total_31 (by decide) ?_)
      exact R_iret hC hT dX11_total_35 rfl (by
      have ev : ¬ nI (tT α).1 = 0 → opTotal α = b2i (tot (tT α)) := fun z => by unfold opTotal; rw [if_neg (fun y => z ((T0_iff ok).mpr y))]
      first
      | (rw [ev h12, b2i_t (b2i_ne h27)]; exact (MD.of h hg).p)
      | (have h28 := h27; rw [ev h12, b2i_f (b2i_0 h28)]; exact (MD.of h hg).p)
      | (have e : opTotal α = -1 := (by unfold opTotal; rw [if_pos ((T0_iff ok).mp h12)]); rw [e]; exact MPost.i h1 (M_ceq σ)))
  · refine R_iconst (v := (-1)) hC dX11_total_15 (by decide) (R_goto hC 35 dX11_total_16 (by decide) ?_)
    exact R_iret hC hT dX11_total_35 rfl (by
    have ev : ¬ nI (tT α).1 = 0 → opTotal α = b2i (tot (tT α)) := fun z => by unfold opTotal; rw [if_neg (fun y => z ((T0_iff ok).mpr y))]
    first
    | (rw [ev h12, b2i_t (b2i_ne h27)]; exact (MD.of h hg).p)
    | (have h28 := h27; rw [ev h12, b2i_f (b2i_0 h28)]; exact (MD.of h hg).p)
    | (have e : opTotal α = -1 := (by unfold opTotal; rw [if_pos ((T0_iff ok).mp h12)]); rw [e]; exact MPost.i h1 (M_ceq σ)))
end
section
theorem MD.R {σ ω : sg} {α : aS} (h : MD σ ω α) : ω.2.2 i_m_now 36 = nI (tT α).1 := h.1.2.1.1
theorem MD.C {σ ω : sg} {α : aS} (h : MD σ ω α) : ω.2.2 i_m_now 37 = nI (tT α).2.1 := h.1.2.1.2.1
theorem pcI {s : Nat} (hs : s < 64) {k : Nat} (hk : k < 2 ^ 31) : (nI (pc6 s) = nI k) ↔ pc6 s = k := nI_eq (by have := pc6_le s hs; omega) hk
-- squares
noncomputable def sqH (T : tb) (k : Nat) (w : Int32) (r c : Nat) (v : Int32) : Int32 := by classical exact if (pc6 r = k ∧ pc6 c = k ∧ sortZ (dD T.2.2 r c) = w) then v + 1 else v
noncomputable def opSquares (α : aS) (k w : Int32) : Int32 := by classical exact if (¬ (tT α).1 = 0 ∧ (1 ≤ k.toInt ∧ k.toInt ≤ 6) ∧ (0 ≤ w.toInt ∧ w.toInt ≤ 2)) then fo2 (sqH (tT α) k.toNatClampNeg w) (2 ^ (tT α).1) (2 ^ (tT α).2.1) 0 else -1
theorem mo_squares {σ : sg} {x : aW} {α : aS} (h : MInv σ α) (ok : aOK α) (k w : Int32) : Mt mX11_squares 2 0 0 [.ref i_M, .int k, .int w] (wd σ x) (MPost σ x (opSquares α k w) α) := by
  refine Mt.of MI_X11_squares (Nat.le_of_ble_eq_true rfl) (fun X hC hR hT => ?_)
  have hT1 : σ.2.2 i_m_now 36 = nI (tT α).1 := h.2.1.1
  have hTB : TB (σ.2.2 i_m_now) (tT α) := h.2.1.TB ok.2.2.1
  have h1 := M_thr h 0
  have hR6 := ok.2.2.1.1
  have hC6 := ok.2.2.1.2.1
  have p1 := pw6 hR6
  have p2 := pw6 hC6
  have no : ¬ (¬ (tT α).1 = 0 ∧ (1 ≤ k.toInt ∧ k.toInt ≤ 6) ∧ (0 ≤ w.toInt ∧ w.toInt ≤ 2)) → opSquares α k w = -1 := fun q => by unfold opSquares; rw [if_neg q]
  have loop : ∀ ω, MD σ ω α → ∀ K : Nat, k = nI K → K < 2 ^ 31 → opSquares α k w = fo2 (sqH (tT α) K w) (2 ^ (tT α).1) (2 ^ (tT α).2.1) 0 → ∀ n, n ≤ 2 ^ (tT α).1 → 1 ≤ n → ∀ u5 u6, Rw mX11_squares X 54 [some (.ref i_M), some (.int k), some (.int w), some (.int (fo (fun r v => fo (sqH (tT α) K w r) 1 (2 ^ (tT α).2.1) v) 1 n 0)), some (.int (nI n)), u5, u6] [] (wd ω x) 0 0 := by
    intro ω hω K ek hK eo
    refine up_loop (2 ^ (tT α).1) ?_ ?_
    · intro n1 u5 u6
      refine R_iload hC dX11_squares_54 rfl (R_iconst (v := 1) hC dX11_squares_56 (by decide) (R_aload_n (i := 0) hC dX11_squares_57 rfl rfl (R_gR hC dX11_squares_58 fl_X11_13 L_M rfl (R_bipush (v := 36) hC dX11_squares_61 (by decide) (R_aI hC dX11_squares_63 L_m_now 36 rfl (by decide) (by decide) ?_)))))
      refine R_top (y := nI (tT α).1) (hω.R) ?_
      refine R_ishl hC dX11_squares_64 ?_
      refine R_top (y := nI (2 ^ (tT α).1)) (shl1 _ hR6) ?_
      refine R_icmp_ge hC 154 dX11_squares_65 (by decide) (fun _ => ?_) (fun h => absurd (Int32.le_refl _) h)
      refine R_iload_n (i := 3) hC dX11_squares_154 rfl rfl ?_
      exact R_iret hC hT dX11_squares_155 rfl (by rw [eo]; exact hω.p)
    · intro n hn ih n1 u5 u6
      have ih2 := ih (by omega)
      rw [fo_s _ n1] at ih2
      have inn : ∀ c, c ≤ 2 ^ (tT α).2.1 → 1 ≤ c → ∀ u6, Rw mX11_squares X 71 [some (.ref i_M), some (.int k), some (.int w), some (.int (fo (sqH (tT α) K w n) 1 c (fo (fun r v => fo (sqH (tT α) K w r) 1 (2 ^ (tT α).2.1) v) 1 n 0))), some (.int (nI n)), some (.int (nI c)), u6] [] (wd ω x) 0 0 := by
        generalize hv0 : fo (fun r v => fo (sqH (tT α) K w r) 1 (2 ^ (tT α).2.1) v) 1 n 0 = v0 at ih2 ⊢
        refine up_loop (2 ^ (tT α).2.1) ?_ ?_
        · intro c1 u6
          refine R_iload hC dX11_squares_71 rfl (R_iconst (v := 1) hC dX11_squares_73 (by decide) (R_aload_n (i := 0) hC dX11_squares_74 rfl rfl (R_gR hC dX11_squares_75 fl_X11_13 L_M rfl (R_bipush (v := 37) hC dX11_squares_78 (by decide) (R_aI hC dX11_squares_80 L_m_now 37 rfl (by decide) (by decide) ?_)))))
          refine R_top (y := nI (tT α).2.1) (hω.C) ?_
          refine R_ishl hC dX11_squares_81 ?_
          refine R_top (y := nI (2 ^ (tT α).2.1)) (shl1 _ hC6) ?_
          refine R_icmp_ge hC 148 dX11_squares_82 (by decide) (fun _ => ?_) (fun h => absurd (Int32.le_refl _) h)
          refine R_iinc hC dX11_squares_148 rfl (inc1 _) (by decide) rfl (R_goto hC 54 dX11_squares_151 (by decide) ?_)
          exact ih2 _ _
        · intro c hc ihc c1 u6
          have em := pcI (s := n) (by omega) hK
          have em2 := pcI (s := c) (by omega) hK
          have ihc2 := ihc (by omega)
          rw [fo_s _ c1] at ihc2
          by_cases hpn : pc6 n = K
          · have nx : ∀ b : Int32, sqH (tT α) K w n c (fo (sqH (tT α) K w n) 1 c v0) = fo (sqH (tT α) K w n) 1 c v0 + b → ∀ u6, Rw mX11_squares X 140 [some (.ref i_M), some (.int k), some (.int w), some (.int (fo (sqH (tT α) K w n) 1 c v0)), some (.int (nI n)), some (.int (nI c)), u6] [.int b, .int (fo (sqH (tT α) K w n) 1 c v0)] (wd ω x) 0 0 := by
              intro b hb u6
              rw [hb] at ihc2
              refine R_iadd hC dX11_squares_140 (R_istore_n (i := 3) hC dX11_squares_141 rfl (by decide) rfl (R_iinc hC dX11_squares_142 rfl (inc1 _) (by decide) rfl (R_goto hC 71 dX11_squares_145 (by decide) ?_)))
              exact ihc2 _
            refine R_iload hC dX11_squares_71 rfl (R_iconst (v := 1) hC dX11_squares_73 (by decide) (R_aload_n (i := 0) hC dX11_squares_74 rfl rfl (R_gR hC dX11_squares_75 fl_X11_13 L_M rfl (R_bipush (v := 37) hC dX11_squares_78 (by decide) (R_aI hC dX11_squares_80 L_m_now 37 rfl (by decide) (by decide) ?_)))))
            refine R_top (y := nI (tT α).2.1) (hω.C) ?_
            refine R_ishl hC dX11_squares_81 ?_
            refine R_top (y := nI (2 ^ (tT α).2.1)) (shl1 _ hC6) ?_
            refine R_icmp_ge hC 148 dX11_squares_82 (by decide) (fun h => absurd h (nI_ge hc (by omega))) (fun _ => ?_)
            refine R_iload hC dX11_squares_85 rfl ?_
            refine R_S1i hC hR dX11_squares_87 MS_X11_sizeOf ml_X11_204 (s_sizeOf n (by omega) _) (by decide) ⟨by decide, by decide⟩ (Nat.le_of_ble_eq_true rfl) ?_
            refine R_iload_n (i := 1) hC dX11_squares_90 rfl rfl ?_
            refine R_icmp_ne hC 148 dX11_squares_91 (by decide) (fun h => absurd (by rw [ek]; exact em.mpr hpn) h) (fun _ => ?_)
            refine R_iload hC dX11_squares_94 rfl ?_
            refine R_S1i hC hR dX11_squares_96 MS_X11_sizeOf ml_X11_204 (s_sizeOf c (by omega) _) (by decide) ⟨by decide, by decide⟩ (Nat.le_of_ble_eq_true rfl) ?_
            refine R_iload_n (i := 1) hC dX11_squares_99 rfl rfl ?_
            refine R_icmp_eq hC 106 dX11_squares_100 (by decide) (fun h100 => ?_) (fun h100 => ?_)
            · rw [ek] at h100
              have hpc := em2.mp h100
              refine R_aload_n (i := 0) hC dX11_squares_106 rfl rfl (R_gR hC dX11_squares_107 fl_X11_38 L_M rfl (R_bipush (v := 64) hC dX11_squares_110 (by decide) (R_iload hC dX11_squares_112 rfl (R_imul hC dX11_squares_114 (R_iload hC dX11_squares_115 rfl (R_iadd hC dX11_squares_117 (R_aI hC dX11_squares_118 L_m_dets (64 * n + c) (n64 n c) (by omega) (by decide) ?_)))))))
              refine R_top (y := dD (tT α).2.2 n c) (hω.2.2 n c hn hc (by omega)) ?_
              refine R_abs hC hR dX11_squares_119 kl_X11_218 (by decide) ⟨by decide, by decide⟩ (Nat.le_of_ble_eq_true rfl) ?_
              refine R_istore hC dX11_squares_122 (by decide) rfl (R_iload_n (i := 3) hC dX11_squares_124 rfl rfl (R_iconst (v := 2) hC dX11_squares_125 (by decide) (R_iload hC dX11_squares_126 rfl ?_)))
              refine R_min hC hR dX11_squares_128 kl_X11_223 (by decide) ⟨by decide, by decide⟩ (Nat.le_of_ble_eq_true rfl) ?_
              refine R_top (y := sortZ (dD (tT α).2.2 n c)) (sort_eq (dD_bd ok.2.2.1 hn hc)) ?_
              refine R_iload_n (i := 2) hC dX11_squares_131 rfl rfl ?_
              refine R_icmp_ne hC 139 dX11_squares_132 (by decide) (fun h132 => ?_) (fun h132 => ?_)
              · refine R_iconst (v := 0) hC dX11_squares_139 (by decide) ?_
                exact nx _ (by
                unfold sqH
                first
                | (rw [if_pos ⟨hpn, hpc, h132⟩]; done)
                | (have h133 := h132; rw [if_neg (fun z => h133 z.2.2), Int32.add_zero]; done)) _
              · refine R_iconst (v := 1) hC dX11_squares_135 (by decide) (R_goto hC 140 dX11_squares_136 (by decide) ?_)
                exact nx _ (by
                unfold sqH
                first
                | (rw [if_pos ⟨hpn, hpc, h132⟩]; done)
                | (have h133 := h132; rw [if_neg (fun z => h133 z.2.2), Int32.add_zero]; done)) _
            · refine R_goto hC 142 dX11_squares_103 (by decide) (R_iinc hC dX11_squares_142 rfl (inc1 _) (by decide) rfl (R_goto hC 71 dX11_squares_145 (by decide) ?_))
              exact (by
              have e : sqH (tT α) K w n c (fo (sqH (tT α) K w n) 1 c v0) = fo (sqH (tT α) K w n) 1 c v0 := by unfold sqH; rw [if_neg (fun z => h100 (by rw [ek]; exact em2.mpr z.2.1))]
              rw [e] at ihc2
              exact ihc2 _)
          · have e : ∀ b v, fo (sqH (tT α) K w n) 1 b v = v := fun b v => fo_id b (fun i v _ _ => by unfold sqH; rw [if_neg (fun z => hpn z.1)]) v
            rw [e] at ih2
            rw [e]
            refine R_iload hC dX11_squares_71 rfl (R_iconst (v := 1) hC dX11_squares_73 (by decide) (R_aload_n (i := 0) hC dX11_squares_74 rfl rfl (R_gR hC dX11_squares_75 fl_X11_13 L_M rfl (R_bipush (v := 37) hC dX11_squares_78 (by decide) (R_aI hC dX11_squares_80 L_m_now 37 rfl (by decide) (by decide) ?_)))))
            refine R_top (y := nI (tT α).2.1) (hω.C) ?_
            refine R_ishl hC dX11_squares_81 ?_
            refine R_top (y := nI (2 ^ (tT α).2.1)) (shl1 _ hC6) ?_
            refine R_icmp_ge hC 148 dX11_squares_82 (by decide) (fun h => absurd h (nI_ge hc (by omega))) (fun _ => ?_)
            refine R_iload hC dX11_squares_85 rfl ?_
            refine R_S1i hC hR dX11_squares_87 MS_X11_sizeOf ml_X11_204 (s_sizeOf n (by omega) _) (by decide) ⟨by decide, by decide⟩ (Nat.le_of_ble_eq_true rfl) ?_
            refine R_iload_n (i := 1) hC dX11_squares_90 rfl rfl ?_
            refine R_icmp_ne hC 148 dX11_squares_91 (by decide) (fun _ => ?_) (fun h => absurd h (by rw [ek]; exact fun z => hpn (em.mp z)))
            refine R_iinc hC dX11_squares_148 rfl (inc1 _) (by decide) rfl (R_goto hC 54 dX11_squares_151 (by decide) ?_)
            exact ih2 _ _
      have i1 := inn 1 (Nat.one_le_two_pow) (Nat.le_refl _)
      rw [fo_0 _ (Nat.le_refl 1)] at i1
      refine R_iload hC dX11_squares_54 rfl (R_iconst (v := 1) hC dX11_squares_56 (by decide) (R_aload_n (i := 0) hC dX11_squares_57 rfl rfl (R_gR hC dX11_squares_58 fl_X11_13 L_M rfl (R_bipush (v := 36) hC dX11_squares_61 (by decide) (R_aI hC dX11_squares_63 L_m_now 36 rfl (by decide) (by decide) ?_)))))
      refine R_top (y := nI (tT α).1) (hω.R) ?_
      refine R_ishl hC dX11_squares_64 ?_
      refine R_top (y := nI (2 ^ (tT α).1)) (shl1 _ hR6) ?_
      refine R_icmp_ge hC 154 dX11_squares_65 (by decide) (fun h => absurd h (nI_ge hn (by omega))) (fun _ => ?_)
      refine R_iconst (v := 1) hC dX11_squares_68 (by decide) (R_istore hC dX11_squares_69 (by decide) rfl ?_)
      exact i1 _
  refine R_aload_n (i := 0) hC dX11_squares_0 rfl rfl (R_iconst (v := 0) hC dX11_squares_1 (by decide) (R_pI hC dX11_squares_2 fl_X11_83 L_M rfl (R_aload_n (i := 0) hC dX11_squares_5 rfl rfl (R_gR hC dX11_squares_6 fl_X11_13 L_M rfl (R_bipush (v := 36) hC dX11_squares_9 (by decide) (R_aI hC dX11_squares_11 L_m_now 36 rfl (by decide) (by decide) ?_))))))
  refine R_top (y := nI (tT α).1) hT1 ?_
  refine R_if_eq hC 39 dX11_squares_12 (by decide) (fun h12 => ?_) (fun h12 => ?_)
  · refine R_iconst (v := (-1)) hC dX11_squares_39 (by decide) ?_
    exact R_iret hC hT dX11_squares_40 rfl (by
    first
    | (rw [no (fun z => z.1 ((T0_iff ok).mp h12))]; exact MPost.i h1 (M_ceq σ))
    | (rw [no (fun z => ite0 h24 z.2.1)]; exact MPost.i h1 (M_ceq σ))
    | (rw [no (fun z => ite0 h36 z.2.2)]; exact MPost.i h1 (M_ceq σ)))
  · refine R_iload_n (i := 1) hC dX11_squares_15 rfl rfl (R_i2l hC dX11_squares_16 (R_lconst (v := 1) hC dX11_squares_17 (by decide) (R_ldc2 hC dX11_squares_18 kc_X11_214 ?_)))
    refine R_S3i hC hR dX11_squares_21 MS_X11_isIn ml_X11_140 (s_isInZ k 1 6 1 6 (by decide) (by decide) _) (by decide) ⟨by decide, by decide⟩ (Nat.le_of_ble_eq_true rfl) ?_
    refine R_if_eq hC 39 dX11_squares_24 (by decide) (fun h24 => ?_) (fun h24 => ?_)
    · refine R_iconst (v := (-1)) hC dX11_squares_39 (by decide) ?_
      exact R_iret hC hT dX11_squares_40 rfl (by
      first
      | (rw [no (fun z => z.1 ((T0_iff ok).mp h12))]; exact MPost.i h1 (M_ceq σ))
      | (rw [no (fun z => ite0 h24 z.2.1)]; exact MPost.i h1 (M_ceq σ))
      | (rw [no (fun z => ite0 h36 z.2.2)]; exact MPost.i h1 (M_ceq σ)))
    · refine R_iload_n (i := 2) hC dX11_squares_27 rfl rfl (R_i2l hC dX11_squares_28 (R_lconst (v := 0) hC dX11_squares_29 (by decide) (R_ldc2 hC dX11_squares_30 kc_X11_216 ?_)))
      refine R_S3i hC hR dX11_squares_33 MS_X11_isIn ml_X11_140 (s_isInZ w 0 2 0 2 (by decide) (by decide) _) (by decide) ⟨by decide, by decide⟩ (Nat.le_of_ble_eq_true rfl) ?_
      refine R_if_ne hC 41 dX11_squares_36 (by decide) (fun h36 => ?_) (fun h36 => ?_)
      · refine R_aload_n (i := 0) hC dX11_squares_41 rfl rfl (R_aload_n (i := 0) hC dX11_squares_42 rfl rfl (R_gR hC dX11_squares_43 fl_X11_13 L_M rfl ?_))
        refine R_V1g hC hR dX11_squares_46 MV_X11_laysDets ml_X11_207 L_M rfl (s_laysDets (sG σ i_M 0 0) x i_m_now L_m_now (by decide) (tT α) hTB) (by decide) ⟨by decide, by decide⟩ (Nat.le_of_ble_eq_true rfl) (fun r w1 hq => ?_)
        obtain ⟨rfl, g, rfl, hg⟩ := hq
        have k1 := ite1 h24
        have k2 := ite1 h36
        have n0 : ¬ (tT α).1 = 0 := fun z => h12 ((T0_iff ok).mpr z)
        obtain ⟨K, ek, hK, hK2⟩ := i32_nI (show 0 ≤ k.toInt by omega)
        have l1 := loop _ (MD.of h hg) K ek hK2 (by unfold opSquares; rw [if_pos ⟨n0, k1, k2⟩, ek, nI_clamp hK2]) 1 (Nat.one_le_two_pow) (Nat.le_refl _)
        rw [fo_0 _ (Nat.le_refl 1)] at l1
        refine R_iconst (v := 0) hC dX11_squares_49 (by decide) (R_istore_n (i := 3) hC dX11_squares_50 rfl (by decide) rfl (R_iconst (v := 1) hC dX11_squares_51 (by decide) (R_istore hC dX11_squares_52 (by decide) rfl ?_)))
        exact l1 _ _
      · refine R_iconst (v := (-1)) hC dX11_squares_39 (by decide) ?_
        exact R_iret hC hT dX11_squares_40 rfl (by
        first
        | (rw [no (fun z => z.1 ((T0_iff ok).mp h12))]; exact MPost.i h1 (M_ceq σ))
        | (rw [no (fun z => ite0 h24 z.2.1)]; exact MPost.i h1 (M_ceq σ))
        | (rw [no (fun z => ite0 h36 z.2.2)]; exact MPost.i h1 (M_ceq σ)))
-- rank
def nzB (b d : Int32) : Prop := if b = 0 then ¬ d = 0 else ¬ d - d / b * b = 0
noncomputable def rkH (T : tb) (b : Int32) (r c : Nat) (v : Int32) : Int32 := by classical exact if (pc6 r = pc6 c ∧ nzB b (dD T.2.2 r c)) then (if v < nI (pc6 r) then nI (pc6 r) else v) else v
noncomputable def opRank (α : aS) (b : Int32) : Int32 := by classical exact if (¬ (tT α).1 = 0 ∧ (b = 0 ∨ b = 2 ∨ b = 3)) then fo2 (rkH (tT α) b) (2 ^ (tT α).1) (2 ^ (tT α).2.1) 0 else -1
theorem mo_rank {σ : sg} {x : aW} {α : aS} (h : MInv σ α) (ok : aOK α) (b : Int32) : Mt mX11_rank 2 0 0 [.ref i_M, .int b] (wd σ x) (MPost σ x (opRank α b) α) := by
  refine Mt.of MI_X11_rank (Nat.le_of_ble_eq_true rfl) (fun X hC hR hT => ?_)
  have hT1 : σ.2.2 i_m_now 36 = nI (tT α).1 := h.2.1.1
  have hTB : TB (σ.2.2 i_m_now) (tT α) := h.2.1.TB ok.2.2.1
  have h1 := M_thr h 0
  have hR6 := ok.2.2.1.1
  have hC6 := ok.2.2.1.2.1
  have p1 := pw6 hR6
  have p2 := pw6 hC6
  have no : ¬ (¬ (tT α).1 = 0 ∧ (b = 0 ∨ b = 2 ∨ b = 3)) → opRank α b = -1 := fun q => by unfold opRank; rw [if_neg q]
  have loop : ∀ ω, MD σ ω α → opRank α b = fo2 (rkH (tT α) b) (2 ^ (tT α).1) (2 ^ (tT α).2.1) 0 → ∀ n, n ≤ 2 ^ (tT α).1 → 1 ≤ n → ∀ u5 u6, Rw mX11_rank X 43 [some (.ref i_M), some (.int b), some (.int (fo (fun r v => fo (rkH (tT α) b r) 1 (2 ^ (tT α).2.1) v) 1 n 0)), some (.int (nI n)), u5, u6] [] (wd ω x) 0 0 := by
    intro ω hω eo
    refine up_loop (2 ^ (tT α).1) ?_ ?_
    · intro n1 u5 u6
      refine R_iload_n (i := 3) hC dX11_rank_43 rfl rfl (R_iconst (v := 1) hC dX11_rank_44 (by decide) (R_aload_n (i := 0) hC dX11_rank_45 rfl rfl (R_gR hC dX11_rank_46 fl_X11_13 L_M rfl (R_bipush (v := 36) hC dX11_rank_49 (by decide) (R_aI hC dX11_rank_51 L_m_now 36 rfl (by decide) (by decide) ?_)))))
      refine R_top (y := nI (tT α).1) (hω.R) ?_
      refine R_ishl hC dX11_rank_52 ?_
      refine R_top (y := nI (2 ^ (tT α).1)) (shl1 _ hR6) ?_
      refine R_icmp_ge hC 142 dX11_rank_53 (by decide) (fun _ => ?_) (fun h => absurd (Int32.le_refl _) h)
      refine R_iload_n (i := 2) hC dX11_rank_142 rfl rfl ?_
      exact R_iret hC hT dX11_rank_143 rfl (by rw [eo]; exact hω.p)
    · intro n hn ih n1 u5 u6
      have ih2 := ih (by omega)
      rw [fo_s _ n1] at ih2
      have inn : ∀ c, c ≤ 2 ^ (tT α).2.1 → 1 ≤ c → ∀ u6, Rw mX11_rank X 59 [some (.ref i_M), some (.int b), some (.int (fo (rkH (tT α) b n) 1 c (fo (fun r v => fo (rkH (tT α) b r) 1 (2 ^ (tT α).2.1) v) 1 n 0))), some (.int (nI n)), some (.int (nI c)), u6] [] (wd ω x) 0 0 := by
        generalize hv0 : fo (fun r v => fo (rkH (tT α) b r) 1 (2 ^ (tT α).2.1) v) 1 n 0 = v0 at ih2 ⊢
        refine up_loop (2 ^ (tT α).2.1) ?_ ?_
        · intro c1 u6
          refine R_iload hC dX11_rank_59 rfl (R_iconst (v := 1) hC dX11_rank_61 (by decide) (R_aload_n (i := 0) hC dX11_rank_62 rfl rfl (R_gR hC dX11_rank_63 fl_X11_13 L_M rfl (R_bipush (v := 37) hC dX11_rank_66 (by decide) (R_aI hC dX11_rank_68 L_m_now 37 rfl (by decide) (by decide) ?_)))))
          refine R_top (y := nI (tT α).2.1) (hω.C) ?_
          refine R_ishl hC dX11_rank_69 ?_
          refine R_top (y := nI (2 ^ (tT α).2.1)) (shl1 _ hC6) ?_
          refine R_icmp_ge hC 136 dX11_rank_70 (by decide) (fun _ => ?_) (fun h => absurd (Int32.le_refl _) h)
          refine R_iinc hC dX11_rank_136 rfl (inc1 _) (by decide) rfl (R_goto hC 43 dX11_rank_139 (by decide) ?_)
          exact ih2 _ _
        · intro c hc ihc c1 u6
          have q2 := pc6_le c (by omega)
          have em := pcI (s := n) (k := pc6 c) (by omega) (by omega)
          have ihc2 := ihc (by omega)
          rw [fo_s _ c1] at ihc2
          generalize hvc : fo (rkH (tT α) b n) 1 c v0 = vc at ihc2 ⊢
          have sk : ¬ (pc6 n = pc6 c ∧ nzB b (dD (tT α).2.2 n c)) → ∀ u6, Rw mX11_rank X 59 [some (.ref i_M), some (.int b), some (.int vc), some (.int (nI n)), some (.int (nI (c + 1))), u6] [] (wd ω x) 0 0 := by
            intro q u6
            have e : rkH (tT α) b n c vc = vc := by unfold rkH; rw [if_neg q]
            rw [e] at ihc2; exact ihc2 _
          refine R_iload hC dX11_rank_59 rfl (R_iconst (v := 1) hC dX11_rank_61 (by decide) (R_aload_n (i := 0) hC dX11_rank_62 rfl rfl (R_gR hC dX11_rank_63 fl_X11_13 L_M rfl (R_bipush (v := 37) hC dX11_rank_66 (by decide) (R_aI hC dX11_rank_68 L_m_now 37 rfl (by decide) (by decide) ?_)))))
          refine R_top (y := nI (tT α).2.1) (hω.C) ?_
          refine R_ishl hC dX11_rank_69 ?_
          refine R_top (y := nI (2 ^ (tT α).2.1)) (shl1 _ hC6) ?_
          refine R_icmp_ge hC 136 dX11_rank_70 (by decide) (fun h => absurd h (nI_ge hc (by omega))) (fun _ => ?_)
          refine R_iload_n (i := 3) hC dX11_rank_73 rfl rfl ?_
          refine R_S1i hC hR dX11_rank_74 MS_X11_sizeOf ml_X11_204 (s_sizeOf n (by omega) _) (by decide) ⟨by decide, by decide⟩ (Nat.le_of_ble_eq_true rfl) ?_
          refine R_iload hC dX11_rank_77 rfl ?_
          refine R_S1i hC hR dX11_rank_79 MS_X11_sizeOf ml_X11_204 (s_sizeOf c (by omega) _) (by decide) ⟨by decide, by decide⟩ (Nat.le_of_ble_eq_true rfl) ?_
          refine R_icmp_eq hC 88 dX11_rank_82 (by decide) (fun h82 => ?_) (fun h82 => ?_)
          · have hpc := em.mp h82
            refine R_aload_n (i := 0) hC dX11_rank_88 rfl rfl (R_gR hC dX11_rank_89 fl_X11_38 L_M rfl (R_bipush (v := 64) hC dX11_rank_92 (by decide) (R_iload_n (i := 3) hC dX11_rank_94 rfl rfl (R_imul hC dX11_rank_95 (R_iload hC dX11_rank_96 rfl (R_iadd hC dX11_rank_98 (R_aI hC dX11_rank_99 L_m_dets (64 * n + c) (n64 n c) (by omega) (by decide) ?_)))))))
            refine R_top (y := dD (tT α).2.2 n c) (hω.2.2 n c hn hc hpc) ?_
            refine R_istore hC dX11_rank_100 (by decide) rfl (R_iload_n (i := 1) hC dX11_rank_102 rfl rfl ?_)
            refine R_if_ne hC 114 dX11_rank_103 (by decide) (fun h103 => ?_) (fun h103 => ?_)
            · refine R_iload hC dX11_rank_114 rfl (R_iload_n (i := 1) hC dX11_rank_116 rfl rfl (R_irem hC dX11_rank_117 h103 ?_))
              refine R_if_eq hC 130 dX11_rank_118 (by decide) (fun h118 => ?_) (fun h118 => ?_)
              · refine R_iinc hC dX11_rank_130 rfl (inc1 _) (by decide) rfl (R_goto hC 59 dX11_rank_133 (by decide) ?_)
                first
                | exact ihc2 _
                | exact sk (fun z => h82 (em.mpr z.1)) _
                | (refine sk (fun z => ?_) _; have y := z.2; unfold nzB at y; first | (rw [if_neg h103] at y; exact y h118) | (have h104 := h103; rw [if_pos h104] at y; exact y h108))
              · refine R_iload_n (i := 2) hC dX11_rank_121 rfl rfl (R_iload_n (i := 3) hC dX11_rank_122 rfl rfl ?_)
                refine R_S1i hC hR dX11_rank_123 MS_X11_sizeOf ml_X11_204 (s_sizeOf n (by omega) _) (by decide) ⟨by decide, by decide⟩ (Nat.le_of_ble_eq_true rfl) ?_
                refine R_max hC hR dX11_rank_126 kl_X11_304 (by decide) ⟨by decide, by decide⟩ (Nat.le_of_ble_eq_true rfl) ?_
                have hnz : nzB b (dD (tT α).2.2 n c) := by
                  unfold nzB
                  first
                  | (rw [if_neg h103]; exact h118)
                  | (have h104 := h103; rw [if_pos h104]; exact h108)
                have e : rkH (tT α) b n c vc = if vc < nI (pc6 n) then nI (pc6 n) else vc := by unfold rkH; rw [if_pos ⟨hpc, hnz⟩]
                rw [e] at ihc2
                refine R_istore_n (i := 2) hC dX11_rank_129 rfl (by decide) rfl (R_iinc hC dX11_rank_130 rfl (inc1 _) (by decide) rfl (R_goto hC 59 dX11_rank_133 (by decide) ?_))
                first
                | exact ihc2 _
                | exact sk (fun z => h82 (em.mpr z.1)) _
                | (refine sk (fun z => ?_) _; have y := z.2; unfold nzB at y; first | (rw [if_neg h103] at y; exact y h118) | (have h104 := h103; rw [if_pos h104] at y; exact y h108))
            · refine R_iload hC dX11_rank_106 rfl ?_
              refine R_if_eq hC 130 dX11_rank_108 (by decide) (fun h108 => ?_) (fun h108 => ?_)
              · refine R_iinc hC dX11_rank_130 rfl (inc1 _) (by decide) rfl (R_goto hC 59 dX11_rank_133 (by decide) ?_)
                first
                | exact ihc2 _
                | exact sk (fun z => h82 (em.mpr z.1)) _
                | (refine sk (fun z => ?_) _; have y := z.2; unfold nzB at y; first | (rw [if_neg h103] at y; exact y h118) | (have h104 := h103; rw [if_pos h104] at y; exact y h108))
              · refine R_goto hC 121 dX11_rank_111 (by decide) (R_iload_n (i := 2) hC dX11_rank_121 rfl rfl (R_iload_n (i := 3) hC dX11_rank_122 rfl rfl ?_))
                refine R_S1i hC hR dX11_rank_123 MS_X11_sizeOf ml_X11_204 (s_sizeOf n (by omega) _) (by decide) ⟨by decide, by decide⟩ (Nat.le_of_ble_eq_true rfl) ?_
                refine R_max hC hR dX11_rank_126 kl_X11_304 (by decide) ⟨by decide, by decide⟩ (Nat.le_of_ble_eq_true rfl) ?_
                have hnz : nzB b (dD (tT α).2.2 n c) := by
                  unfold nzB
                  first
                  | (rw [if_neg h103]; exact h118)
                  | (have h104 := h103; rw [if_pos h104]; exact h108)
                have e : rkH (tT α) b n c vc = if vc < nI (pc6 n) then nI (pc6 n) else vc := by unfold rkH; rw [if_pos ⟨hpc, hnz⟩]
                rw [e] at ihc2
                refine R_istore_n (i := 2) hC dX11_rank_129 rfl (by decide) rfl (R_iinc hC dX11_rank_130 rfl (inc1 _) (by decide) rfl (R_goto hC 59 dX11_rank_133 (by decide) ?_))
                first
                | exact ihc2 _
                | exact sk (fun z => h82 (em.mpr z.1)) _
                | (refine sk (fun z => ?_) _; have y := z.2; unfold nzB at y; first | (rw [if_neg h103] at y; exact y h118) | (have h104 := h103; rw [if_pos h104] at y; exact y h108))
          · refine R_goto hC 130 dX11_rank_85 (by decide) (R_iinc hC dX11_rank_130 rfl (inc1 _) (by decide) rfl (R_goto hC 59 dX11_rank_133 (by decide) ?_))
            first
            | exact ihc2 _
            | exact sk (fun z => h82 (em.mpr z.1)) _
            | (refine sk (fun z => ?_) _; have y := z.2; unfold nzB at y; first | (rw [if_neg h103] at y; exact y h118) | (have h104 := h103; rw [if_pos h104] at y; exact y h108))
      have i1 := inn 1 (Nat.one_le_two_pow) (Nat.le_refl _)
      rw [fo_0 _ (Nat.le_refl 1)] at i1
      refine R_iload_n (i := 3) hC dX11_rank_43 rfl rfl (R_iconst (v := 1) hC dX11_rank_44 (by decide) (R_aload_n (i := 0) hC dX11_rank_45 rfl rfl (R_gR hC dX11_rank_46 fl_X11_13 L_M rfl (R_bipush (v := 36) hC dX11_rank_49 (by decide) (R_aI hC dX11_rank_51 L_m_now 36 rfl (by decide) (by decide) ?_)))))
      refine R_top (y := nI (tT α).1) (hω.R) ?_
      refine R_ishl hC dX11_rank_52 ?_
      refine R_top (y := nI (2 ^ (tT α).1)) (shl1 _ hR6) ?_
      refine R_icmp_ge hC 142 dX11_rank_53 (by decide) (fun h => absurd h (nI_ge hn (by omega))) (fun _ => ?_)
      refine R_iconst (v := 1) hC dX11_rank_56 (by decide) (R_istore hC dX11_rank_57 (by decide) rfl ?_)
      exact i1 _
  refine R_aload_n (i := 0) hC dX11_rank_0 rfl rfl (R_iconst (v := 0) hC dX11_rank_1 (by decide) (R_pI hC dX11_rank_2 fl_X11_83 L_M rfl (R_aload_n (i := 0) hC dX11_rank_5 rfl rfl (R_gR hC dX11_rank_6 fl_X11_13 L_M rfl (R_bipush (v := 36) hC dX11_rank_9 (by decide) (R_aI hC dX11_rank_11 L_m_now 36 rfl (by decide) (by decide) ?_))))))
  refine R_top (y := nI (tT α).1) hT1 ?_
  refine R_if_eq hC 29 dX11_rank_12 (by decide) (fun h12 => ?_) (fun h12 => ?_)
  · refine R_iconst (v := (-1)) hC dX11_rank_29 (by decide) ?_
    exact R_iret hC hT dX11_rank_30 rfl (by
    first
    | (rw [no (fun z => z.1 ((T0_iff ok).mp h12))]; exact MPost.i h1 (M_ceq σ))
    | (rw [no (fun z => by rcases z.2 with y | y | y; exact h16 y; exact h21 y; exact h26 y)]; exact MPost.i h1 (M_ceq σ)))
  · refine R_iload_n (i := 1) hC dX11_rank_15 rfl rfl ?_
    refine R_if_eq hC 31 dX11_rank_16 (by decide) (fun h16 => ?_) (fun h16 => ?_)
    · refine R_aload_n (i := 0) hC dX11_rank_31 rfl rfl (R_aload_n (i := 0) hC dX11_rank_32 rfl rfl (R_gR hC dX11_rank_33 fl_X11_13 L_M rfl ?_))
      refine R_V1g hC hR dX11_rank_36 MV_X11_laysDets ml_X11_207 L_M rfl (s_laysDets (sG σ i_M 0 0) x i_m_now L_m_now (by decide) (tT α) hTB) (by decide) ⟨by decide, by decide⟩ (Nat.le_of_ble_eq_true rfl) (fun r w1 hq => ?_)
      obtain ⟨rfl, g, rfl, hg⟩ := hq
      have n0 : ¬ (tT α).1 = 0 := fun z => h12 ((T0_iff ok).mpr z)
      have hb : b = 0 ∨ b = 2 ∨ b = 3 := by first | exact Or.inl h16 | exact Or.inr (Or.inl h21) | exact Or.inr (Or.inr h26)
      have l1 := loop _ (MD.of h hg) (by unfold opRank; rw [if_pos ⟨n0, hb⟩]) 1 (Nat.one_le_two_pow) (Nat.le_refl _)
      rw [fo_0 _ (Nat.le_refl 1)] at l1
      refine R_iconst (v := 0) hC dX11_rank_39 (by decide) (R_istore_n (i := 2) hC dX11_rank_40 rfl (by decide) rfl (R_iconst (v := 1) hC dX11_rank_41 (by decide) (R_istore_n (i := 3) hC dX11_rank_42 rfl (by decide) rfl ?_)))
      exact l1 _ _
    · refine R_iload_n (i := 1) hC dX11_rank_19 rfl rfl (R_iconst (v := 2) hC dX11_rank_20 (by decide) ?_)
      refine R_icmp_eq hC 31 dX11_rank_21 (by decide) (fun h21 => ?_) (fun h21 => ?_)
      · refine R_aload_n (i := 0) hC dX11_rank_31 rfl rfl (R_aload_n (i := 0) hC dX11_rank_32 rfl rfl (R_gR hC dX11_rank_33 fl_X11_13 L_M rfl ?_))
        refine R_V1g hC hR dX11_rank_36 MV_X11_laysDets ml_X11_207 L_M rfl (s_laysDets (sG σ i_M 0 0) x i_m_now L_m_now (by decide) (tT α) hTB) (by decide) ⟨by decide, by decide⟩ (Nat.le_of_ble_eq_true rfl) (fun r w1 hq => ?_)
        obtain ⟨rfl, g, rfl, hg⟩ := hq
        have n0 : ¬ (tT α).1 = 0 := fun z => h12 ((T0_iff ok).mpr z)
        have hb : b = 0 ∨ b = 2 ∨ b = 3 := by first | exact Or.inl h16 | exact Or.inr (Or.inl h21) | exact Or.inr (Or.inr h26)
        have l1 := loop _ (MD.of h hg) (by unfold opRank; rw [if_pos ⟨n0, hb⟩]) 1 (Nat.one_le_two_pow) (Nat.le_refl _)
        rw [fo_0 _ (Nat.le_refl 1)] at l1
        refine R_iconst (v := 0) hC dX11_rank_39 (by decide) (R_istore_n (i := 2) hC dX11_rank_40 rfl (by decide) rfl (R_iconst (v := 1) hC dX11_rank_41 (by decide) (R_istore_n (i := 3) hC dX11_rank_42 rfl (by decide) rfl ?_)))
        exact l1 _ _
      · refine R_iload_n (i := 1) hC dX11_rank_24 rfl rfl (R_iconst (v := 3) hC dX11_rank_25 (by decide) ?_)
        refine R_icmp_eq hC 31 dX11_rank_26 (by decide) (fun h26 => ?_) (fun h26 => ?_)
        · refine R_aload_n (i := 0) hC dX11_rank_31 rfl rfl (R_aload_n (i := 0) hC dX11_rank_32 rfl rfl (R_gR hC dX11_rank_33 fl_X11_13 L_M rfl ?_))
          refine R_V1g hC hR dX11_rank_36 MV_X11_laysDets ml_X11_207 L_M rfl (s_laysDets (sG σ i_M 0 0) x i_m_now L_m_now (by decide) (tT α) hTB) (by decide) ⟨by decide, by decide⟩ (Nat.le_of_ble_eq_true rfl) (fun r w1 hq => ?_)
          obtain ⟨rfl, g, rfl, hg⟩ := hq
          have n0 : ¬ (tT α).1 = 0 := fun z => h12 ((T0_iff ok).mpr z)
          have hb : b = 0 ∨ b = 2 ∨ b = 3 := by first | exact Or.inl h16 | exact Or.inr (Or.inl h21) | exact Or.inr (Or.inr h26)
          have l1 := loop _ (MD.of h hg) (by unfold opRank; rw [if_pos ⟨n0, hb⟩]) 1 (Nat.one_le_two_pow) (Nat.le_refl _)
          rw [fo_0 _ (Nat.le_refl 1)] at l1
          refine R_iconst (v := 0) hC dX11_rank_39 (by decide) (R_istore_n (i := 2) hC dX11_rank_40 rfl (by decide) rfl (R_iconst (v := 1) hC dX11_rank_41 (by decide) (R_istore_n (i := 3) hC dX11_rank_42 rfl (by decide) rfl ?_)))
          exact l1 _ _
        · refine R_iconst (v := (-1)) hC dX11_rank_29 (by decide) ?_
          exact R_iret hC hT dX11_rank_30 rfl (by
          first
          | (rw [no (fun z => z.1 ((T0_iff ok).mp h12))]; exact MPost.i h1 (M_ceq σ))
          | (rw [no (fun z => by rcases z.2 with y | y | y; exact h16 y; exact h21 y; exact h26 y)]; exact MPost.i h1 (M_ceq σ)))
-- bases
noncomputable def bsH (T : tb) (r c : Nat) (v : Int32) : Int32 := by classical exact if (pc6 r = pc6 c ∧ ¬ dD T.2.2 r c = 0) then v + 1 else v
noncomputable def opBases (α : aS) : Int32 := if (tT α).1 = 0 then -1 else fo2 (bsH (tT α)) (2 ^ (tT α).1) (2 ^ (tT α).2.1) 1
theorem mo_bases {σ : sg} {x : aW} {α : aS} (h : MInv σ α) (ok : aOK α) : Mt mX11_bases 2 0 0 [.ref i_M] (wd σ x) (MPost σ x (opBases α) α) := by
  refine Mt.of MI_X11_bases (Nat.le_of_ble_eq_true rfl) (fun X hC hR hT => ?_)
  have hT1 : σ.2.2 i_m_now 36 = nI (tT α).1 := h.2.1.1
  have hTB : TB (σ.2.2 i_m_now) (tT α) := h.2.1.TB ok.2.2.1
  have h1 := M_thr h 0
  have hR6 := ok.2.2.1.1
  have hC6 := ok.2.2.1.2.1
  have p1 := pw6 hR6
  have p2 := pw6 hC6
  have loop : ∀ ω, MD σ ω α → opBases α = fo2 (bsH (tT α)) (2 ^ (tT α).1) (2 ^ (tT α).2.1) 1 → ∀ n, n ≤ 2 ^ (tT α).1 → 1 ≤ n → ∀ u5, Rw mX11_bases X 29 [some (.ref i_M), some (.int (fo (fun r v => fo (bsH (tT α) r) 1 (2 ^ (tT α).2.1) v) 1 n 1)), some (.int (nI n)), u5] [] (wd ω x) 0 0 := by
    intro ω hω eo
    refine up_loop (2 ^ (tT α).1) ?_ ?_
    · intro n1 u5
      refine R_iload_n (i := 2) hC dX11_bases_29 rfl rfl (R_iconst (v := 1) hC dX11_bases_30 (by decide) (R_aload_n (i := 0) hC dX11_bases_31 rfl rfl (R_gR hC dX11_bases_32 fl_X11_13 L_M rfl (R_bipush (v := 36) hC dX11_bases_35 (by decide) (R_aI hC dX11_bases_37 L_m_now 36 rfl (by decide) (by decide) ?_)))))
      refine R_top (y := nI (tT α).1) (hω.R) ?_
      refine R_ishl hC dX11_bases_38 ?_
      refine R_top (y := nI (2 ^ (tT α).1)) (shl1 _ hR6) ?_
      refine R_icmp_ge hC 105 dX11_bases_39 (by decide) (fun _ => ?_) (fun h => absurd (Int32.le_refl _) h)
      refine R_iload_n (i := 1) hC dX11_bases_105 rfl rfl ?_
      exact R_iret hC hT dX11_bases_106 rfl (by rw [eo]; exact hω.p)
    · intro n hn ih n1 u5
      have ih2 := ih (by omega)
      rw [fo_s _ n1] at ih2
      have inn : ∀ c, c ≤ 2 ^ (tT α).2.1 → 1 ≤ c → Rw mX11_bases X 44 [some (.ref i_M), some (.int (fo (bsH (tT α) n) 1 c (fo (fun r v => fo (bsH (tT α) r) 1 (2 ^ (tT α).2.1) v) 1 n 1))), some (.int (nI n)), some (.int (nI c))] [] (wd ω x) 0 0 := by
        generalize hv0 : fo (fun r v => fo (bsH (tT α) r) 1 (2 ^ (tT α).2.1) v) 1 n 1 = v0 at ih2 ⊢
        refine up_loop (2 ^ (tT α).2.1) ?_ ?_
        · intro c1
          refine R_iload_n (i := 3) hC dX11_bases_44 rfl rfl (R_iconst (v := 1) hC dX11_bases_45 (by decide) (R_aload_n (i := 0) hC dX11_bases_46 rfl rfl (R_gR hC dX11_bases_47 fl_X11_13 L_M rfl (R_bipush (v := 37) hC dX11_bases_50 (by decide) (R_aI hC dX11_bases_52 L_m_now 37 rfl (by decide) (by decide) ?_)))))
          refine R_top (y := nI (tT α).2.1) (hω.C) ?_
          refine R_ishl hC dX11_bases_53 ?_
          refine R_top (y := nI (2 ^ (tT α).2.1)) (shl1 _ hC6) ?_
          refine R_icmp_ge hC 99 dX11_bases_54 (by decide) (fun _ => ?_) (fun h => absurd (Int32.le_refl _) h)
          refine R_iinc hC dX11_bases_99 rfl (inc1 _) (by decide) rfl (R_goto hC 29 dX11_bases_102 (by decide) ?_)
          exact ih2 _
        · intro c hc ihc c1
          have q2 := pc6_le c (by omega)
          have em := pcI (s := n) (k := pc6 c) (by omega) (by omega)
          have ihc2 := ihc (by omega)
          rw [fo_s _ c1] at ihc2
          generalize hvc : fo (bsH (tT α) n) 1 c v0 = vc at ihc2 ⊢
          have nx : ∀ b, bsH (tT α) n c vc = vc + b → Rw mX11_bases X 91 [some (.ref i_M), some (.int vc), some (.int (nI n)), some (.int (nI c))] [.int b, .int vc] (wd ω x) 0 0 := by
            intro b hb
            rw [hb] at ihc2
            refine R_iadd hC dX11_bases_91 (R_istore_n (i := 1) hC dX11_bases_92 rfl (by decide) rfl (R_iinc hC dX11_bases_93 rfl (inc1 _) (by decide) rfl (R_goto hC 44 dX11_bases_96 (by decide) ?_)))
            exact ihc2
          refine R_iload_n (i := 3) hC dX11_bases_44 rfl rfl (R_iconst (v := 1) hC dX11_bases_45 (by decide) (R_aload_n (i := 0) hC dX11_bases_46 rfl rfl (R_gR hC dX11_bases_47 fl_X11_13 L_M rfl (R_bipush (v := 37) hC dX11_bases_50 (by decide) (R_aI hC dX11_bases_52 L_m_now 37 rfl (by decide) (by decide) ?_)))))
          refine R_top (y := nI (tT α).2.1) (hω.C) ?_
          refine R_ishl hC dX11_bases_53 ?_
          refine R_top (y := nI (2 ^ (tT α).2.1)) (shl1 _ hC6) ?_
          refine R_icmp_ge hC 99 dX11_bases_54 (by decide) (fun h => absurd h (nI_ge hc (by omega))) (fun _ => ?_)
          refine R_iload_n (i := 2) hC dX11_bases_57 rfl rfl ?_
          refine R_S1i hC hR dX11_bases_58 MS_X11_sizeOf ml_X11_204 (s_sizeOf n (by omega) _) (by decide) ⟨by decide, by decide⟩ (Nat.le_of_ble_eq_true rfl) ?_
          refine R_iload_n (i := 3) hC dX11_bases_61 rfl rfl ?_
          refine R_S1i hC hR dX11_bases_62 MS_X11_sizeOf ml_X11_204 (s_sizeOf c (by omega) _) (by decide) ⟨by decide, by decide⟩ (Nat.le_of_ble_eq_true rfl) ?_
          refine R_icmp_eq hC 71 dX11_bases_65 (by decide) (fun h65 => ?_) (fun h65 => ?_)
          · have hpc := em.mp h65
            refine R_iload_n (i := 1) hC dX11_bases_71 rfl rfl (R_aload_n (i := 0) hC dX11_bases_72 rfl rfl (R_gR hC dX11_bases_73 fl_X11_38 L_M rfl (R_bipush (v := 64) hC dX11_bases_76 (by decide) (R_iload_n (i := 2) hC dX11_bases_78 rfl rfl (R_imul hC dX11_bases_79 (R_iload_n (i := 3) hC dX11_bases_80 rfl rfl (R_iadd hC dX11_bases_81 ?_)))))))
            refine R_aI hC dX11_bases_82 L_m_dets (64 * n + c) (n64 n c) (by omega) (by decide) ?_
            refine R_top (y := dD (tT α).2.2 n c) (hω.2.2 n c hn hc hpc) ?_
            refine R_if_ne hC 90 dX11_bases_83 (by decide) (fun h83 => ?_) (fun h83 => ?_)
            · refine R_iconst (v := 1) hC dX11_bases_90 (by decide) ?_
              exact nx _ (by
              unfold bsH
              first
              | (rw [if_pos ⟨hpc, h83⟩]; done)
              | (have h84 := h83; rw [if_neg (fun z => z.2 h84), Int32.add_zero]; done))
            · refine R_iconst (v := 0) hC dX11_bases_86 (by decide) (R_goto hC 91 dX11_bases_87 (by decide) ?_)
              exact nx _ (by
              unfold bsH
              first
              | (rw [if_pos ⟨hpc, h83⟩]; done)
              | (have h84 := h83; rw [if_neg (fun z => z.2 h84), Int32.add_zero]; done))
          · refine R_goto hC 93 dX11_bases_68 (by decide) (R_iinc hC dX11_bases_93 rfl (inc1 _) (by decide) rfl (R_goto hC 44 dX11_bases_96 (by decide) ?_))
            (have e : bsH (tT α) n c vc = vc := (by unfold bsH; rw [if_neg (fun z => h65 (em.mpr z.1))]); rw [e] at ihc2; exact ihc2)
      have i1 := inn 1 (Nat.one_le_two_pow) (Nat.le_refl _)
      rw [fo_0 _ (Nat.le_refl 1)] at i1
      refine R_iload_n (i := 2) hC dX11_bases_29 rfl rfl (R_iconst (v := 1) hC dX11_bases_30 (by decide) (R_aload_n (i := 0) hC dX11_bases_31 rfl rfl (R_gR hC dX11_bases_32 fl_X11_13 L_M rfl (R_bipush (v := 36) hC dX11_bases_35 (by decide) (R_aI hC dX11_bases_37 L_m_now 36 rfl (by decide) (by decide) ?_)))))
      refine R_top (y := nI (tT α).1) (hω.R) ?_
      refine R_ishl hC dX11_bases_38 ?_
      refine R_top (y := nI (2 ^ (tT α).1)) (shl1 _ hR6) ?_
      refine R_icmp_ge hC 105 dX11_bases_39 (by decide) (fun h => absurd h (nI_ge hn (by omega))) (fun _ => ?_)
      refine R_iconst (v := 1) hC dX11_bases_42 (by decide) (R_istore_n (i := 3) hC dX11_bases_43 rfl (by decide) rfl ?_)
      exact i1
  refine R_aload_n (i := 0) hC dX11_bases_0 rfl rfl (R_iconst (v := 0) hC dX11_bases_1 (by decide) (R_pI hC dX11_bases_2 fl_X11_83 L_M rfl (R_aload_n (i := 0) hC dX11_bases_5 rfl rfl (R_gR hC dX11_bases_6 fl_X11_13 L_M rfl (R_bipush (v := 36) hC dX11_bases_9 (by decide) (R_aI hC dX11_bases_11 L_m_now 36 rfl (by decide) (by decide) ?_))))))
  refine R_top (y := nI (tT α).1) hT1 ?_
  refine R_if_ne hC 17 dX11_bases_12 (by decide) (fun h12 => ?_) (fun h12 => ?_)
  · refine R_aload_n (i := 0) hC dX11_bases_17 rfl rfl (R_aload_n (i := 0) hC dX11_bases_18 rfl rfl (R_gR hC dX11_bases_19 fl_X11_13 L_M rfl ?_))
    refine R_V1g hC hR dX11_bases_22 MV_X11_laysDets ml_X11_207 L_M rfl (s_laysDets (sG σ i_M 0 0) x i_m_now L_m_now (by decide) (tT α) hTB) (by decide) ⟨by decide, by decide⟩ (Nat.le_of_ble_eq_true rfl) (fun r w1 hq => ?_)
    obtain ⟨rfl, g, rfl, hg⟩ := hq
    have l1 := loop _ (MD.of h hg) (if_neg (fun z => h12 ((T0_iff ok).mpr z))) 1 (Nat.one_le_two_pow) (Nat.le_refl _)
    rw [fo_0 _ (Nat.le_refl 1)] at l1
    refine R_iconst (v := 1) hC dX11_bases_25 (by decide) (R_istore_n (i := 1) hC dX11_bases_26 rfl (by decide) rfl (R_iconst (v := 1) hC dX11_bases_27 (by decide) (R_istore_n (i := 2) hC dX11_bases_28 rfl (by decide) rfl ?_)))
    exact l1 _
  · refine R_iconst (v := (-1)) hC dX11_bases_15 (by decide) ?_
    exact R_iret hC hT dX11_bases_16 rfl (by have e : opBases α = -1 := if_pos ((T0_iff ok).mp h12); rw [e]; exact MPost.i h1 (M_ceq σ))
-- adjoint
noncomputable def opAdjoint (α : aS) (r c : Int32) : Int32 := by classical exact
  if (inR (tT α).1 r ∧ inR (tT α).2.1 c ∧ (tT α).1 = (tT α).2.1) then (if (r.toNatClampNeg + c.toNatClampNeg) % 2 = 0 then dD (tT α).2.2 (clr (2 ^ (tT α).1 - 1) c.toNatClampNeg) (clr (2 ^ (tT α).1 - 1) r.toNatClampNeg) else -(dD (tT α).2.2 (clr (2 ^ (tT α).1 - 1) c.toNatClampNeg) (clr (2 ^ (tT α).1 - 1) r.toNatClampNeg))) else -1000000
theorem all_bit : ∀ n, n < 7 → ∀ i, i < 6 → i < n → (2 ^ n - 1).testBit i = true := by decide +kernel
theorem mo_adjoint {σ : sg} {x : aW} {α : aS} (h : MInv σ α) (ok : aOK α) (r c : Int32) : Mt mX11_adjoint 2 0 0 [.ref i_M, .int r, .int c] (wd σ x) (MPost σ x (opAdjoint α r c) α) := by
  refine Mt.of MI_X11_adjoint (Nat.le_of_ble_eq_true rfl) (fun X hC hR hT => ?_)
  have hT1 : σ.2.2 i_m_now 36 = nI (tT α).1 := h.2.1.1
  have hT2 : σ.2.2 i_m_now 37 = nI (tT α).2.1 := h.2.1.2.1
  have hTB : TB (σ.2.2 i_m_now) (tT α) := h.2.1.TB ok.2.2.1
  have h1 := M_thr h 0
  have hR6 := ok.2.2.1.1
  have hC6 := ok.2.2.1.2.1
  have p1 := pw6 hR6
  have p2 := pw6 hC6
  have no : ¬ (inR (tT α).1 r ∧ inR (tT α).2.1 c ∧ (tT α).1 = (tT α).2.1) → opAdjoint α r c = -1000000 := fun q => by unfold opAdjoint; rw [if_neg q]
  have eRC : (nI (tT α).1 = nI (tT α).2.1) ↔ (tT α).1 = (tT α).2.1 := nI_eq (by omega) (by omega)
  refine R_aload_n (i := 0) hC dX11_adjoint_0 rfl rfl (R_iconst (v := 0) hC dX11_adjoint_1 (by decide) (R_pI hC dX11_adjoint_2 fl_X11_83 L_M rfl (R_aload_n (i := 0) hC dX11_adjoint_5 rfl rfl (R_aload_n (i := 0) hC dX11_adjoint_6 rfl rfl (R_gR hC dX11_adjoint_7 fl_X11_13 L_M rfl (R_iload_n (i := 1) hC dX11_adjoint_10 rfl rfl (R_iload_n (i := 2) hC dX11_adjoint_11 rfl rfl ?_)))))))
  refine R_V3i hC hR dX11_adjoint_12 MV_X11_isCell ml_X11_158 L_M rfl (s_isCell _ _ _ L_m_now _ _) (by decide) ⟨by decide, by decide⟩ (Nat.le_of_ble_eq_true rfl) ?_
  refine R_if_eq hC 35 dX11_adjoint_15 (by decide) (fun h15 => ?_) (fun h15 => ?_)
  · refine R_ldc hC dX11_adjoint_35 kc_X11_133 ?_
    exact R_iret hC hT dX11_adjoint_37 rfl (by
    first
    | (rw [no (fun z => b2i_0 h15 (hTB.inT_iff.mpr ⟨z.1, z.2.1⟩))]; exact MPost.i h1 (M_ceq σ))
    | (rw [no (fun z => h32 (eRC.mpr z.2.2))]; exact MPost.i h1 (M_ceq σ))
    | (have h89 := h88; rw [ev, if_pos (em.mp h89)]; exact hω.p)
    | (rw [ev, if_neg (fun z => h88 (em.mpr z))]; exact hω.p))
  · refine R_aload_n (i := 0) hC dX11_adjoint_18 rfl rfl (R_gR hC dX11_adjoint_19 fl_X11_13 L_M rfl (R_bipush (v := 36) hC dX11_adjoint_22 (by decide) (R_aI hC dX11_adjoint_24 L_m_now 36 rfl (by decide) (by decide) ?_)))
    refine R_top (y := nI (tT α).1) (hT1) ?_
    refine R_aload_n (i := 0) hC dX11_adjoint_25 rfl rfl (R_gR hC dX11_adjoint_26 fl_X11_13 L_M rfl (R_bipush (v := 37) hC dX11_adjoint_29 (by decide) (R_aI hC dX11_adjoint_31 L_m_now 37 rfl (by decide) (by decide) ?_)))
    refine R_top (y := nI (tT α).2.1) (hT2) ?_
    refine R_icmp_eq hC 38 dX11_adjoint_32 (by decide) (fun h32 => ?_) (fun h32 => ?_)
    · refine R_aload_n (i := 0) hC dX11_adjoint_38 rfl rfl (R_aload_n (i := 0) hC dX11_adjoint_39 rfl rfl (R_gR hC dX11_adjoint_40 fl_X11_13 L_M rfl ?_))
      refine R_V1g hC hR dX11_adjoint_43 MV_X11_laysDets ml_X11_207 L_M rfl (s_laysDets (sG σ i_M 0 0) x i_m_now L_m_now (by decide) (tT α) hTB) (by decide) ⟨by decide, by decide⟩ (Nat.le_of_ble_eq_true rfl) (fun r w1 hq => ?_)
      obtain ⟨rfl, g, rfl, hg⟩ := hq
      have hin := hTB.inT_iff.mp (b2i_ne h15)
      obtain ⟨i, rfl, hi, hi2⟩ := inR_i hin.1
      obtain ⟨j, rfl, hj, hj2⟩ := inR_i hin.2
      have hsq := eRC.mp h32
      have hω := MD.of h hg
      have b1 := all_bit (tT α).1 (by omega) i (by omega) hi
      have b2 := all_bit (tT α).1 (by omega) j (by omega) (by omega)
      have l1 := clr_lt (2 ^ (tT α).1 - 1) (by omega) i (by omega) b1
      have l2 := clr_lt (2 ^ (tT α).1 - 1) (by omega) j (by omega) b2
      have l3 := clr_pc (2 ^ (tT α).1 - 1) (by omega) i (by omega) b1
      have l4 := clr_pc (2 ^ (tT α).1 - 1) (by omega) j (by omega) b2
      have e2 : 2 ^ (tT α).1 = 2 ^ (tT α).2.1 := by rw [hsq]
      generalize hgω : sA (sG σ i_M 0 0) i_m_dets g = ω at hω ⊢
      refine R_iconst (v := 1) hC dX11_adjoint_46 (by decide) (R_aload_n (i := 0) hC dX11_adjoint_47 rfl rfl (R_gR hC dX11_adjoint_48 fl_X11_13 L_M rfl (R_bipush (v := 36) hC dX11_adjoint_51 (by decide) (R_aI hC dX11_adjoint_53 L_m_now 36 rfl (by decide) (by decide) ?_))))
      refine R_top (y := nI (tT α).1) (hω.R) ?_
      refine R_ishl hC dX11_adjoint_54 ?_
      refine R_top (y := nI (2 ^ (tT α).1)) (shl1 _ hR6) ?_
      refine R_iconst (v := 1) hC dX11_adjoint_55 (by decide) (R_isub hC dX11_adjoint_56 ?_)
      refine R_top (y := nI (2 ^ (tT α).1 - 1)) (nI_dec (by have := Nat.one_le_two_pow (n := (tT α).1); omega)) ?_
      refine R_istore_n (i := 3) hC dX11_adjoint_57 rfl (by decide) rfl (R_aload_n (i := 0) hC dX11_adjoint_58 rfl rfl (R_gR hC dX11_adjoint_59 fl_X11_38 L_M rfl (R_bipush (v := 64) hC dX11_adjoint_62 (by decide) (R_iload_n (i := 3) hC dX11_adjoint_64 rfl rfl (R_iconst (v := 1) hC dX11_adjoint_65 (by decide) (R_iload_n (i := 2) hC dX11_adjoint_66 rfl rfl (R_ishl hC dX11_adjoint_67 ?_)))))))
      refine R_iconst (v := (-1)) hC dX11_adjoint_68 (by decide) (R_ixor hC dX11_adjoint_69 (R_iand hC dX11_adjoint_70 ?_))
      refine R_top (y := nI (clr (2 ^ (tT α).1 - 1) j)) (and_clr _ (by omega) j (by omega)) ?_
      refine R_imul hC dX11_adjoint_71 (R_iload_n (i := 3) hC dX11_adjoint_72 rfl rfl (R_iconst (v := 1) hC dX11_adjoint_73 (by decide) (R_iload_n (i := 1) hC dX11_adjoint_74 rfl rfl (R_ishl hC dX11_adjoint_75 (R_iconst (v := (-1)) hC dX11_adjoint_76 (by decide) (R_ixor hC dX11_adjoint_77 (R_iand hC dX11_adjoint_78 ?_)))))))
      refine R_top (y := nI (clr (2 ^ (tT α).1 - 1) i)) (and_clr _ (by omega) i (by omega)) ?_
      refine R_iadd hC dX11_adjoint_79 (R_aI hC dX11_adjoint_80 L_m_dets (64 * clr (2 ^ (tT α).1 - 1) j + clr (2 ^ (tT α).1 - 1) i) (n64 _ _) (by omega) (by decide) ?_)
      refine R_top (y := dD (tT α).2.2 (clr (2 ^ (tT α).1 - 1) j) (clr (2 ^ (tT α).1 - 1) i)) (hω.2.2 _ _ (by omega) (by omega) (by omega)) ?_
      refine R_istore hC dX11_adjoint_81 (by decide) rfl (R_iload_n (i := 1) hC dX11_adjoint_83 rfl rfl (R_iload_n (i := 2) hC dX11_adjoint_84 rfl rfl (R_iadd hC dX11_adjoint_85 ?_)))
      refine R_top (y := nI (i + j)) (nI_add i j) ?_
      refine R_iconst (v := 2) hC dX11_adjoint_86 (by decide) (R_irem hC dX11_adjoint_87 (by decide) ?_)
      refine R_top (y := nI ((i + j) % 2)) (by rw [show (2 : Int32) = nI 2 from rfl]; exact pk_rem (by omega) (by decide) (by decide)) ?_
      have em : (nI ((i + j) % 2) = (0 : Int32)) ↔ (i + j) % 2 = 0 := nI_eq (b := 0) (by omega) (by decide)
      have ev : opAdjoint α (nI i) (nI j) = if (i + j) % 2 = 0 then dD (tT α).2.2 (clr (2 ^ (tT α).1 - 1) j) (clr (2 ^ (tT α).1 - 1) i) else -(dD (tT α).2.2 (clr (2 ^ (tT α).1 - 1) j) (clr (2 ^ (tT α).1 - 1) i)) := by
        unfold opAdjoint; rw [if_pos ⟨hin.1, hin.2, hsq⟩, nI_clamp hi2, nI_clamp hj2]
      refine R_if_ne hC 96 dX11_adjoint_88 (by decide) (fun h88 => ?_) (fun h88 => ?_)
      · refine R_iload hC dX11_adjoint_96 rfl (R_ineg hC dX11_adjoint_98 ?_)
        exact R_iret hC hT dX11_adjoint_99 rfl (by
        first
        | (rw [no (fun z => b2i_0 h15 (hTB.inT_iff.mpr ⟨z.1, z.2.1⟩))]; exact MPost.i h1 (M_ceq σ))
        | (rw [no (fun z => h32 (eRC.mpr z.2.2))]; exact MPost.i h1 (M_ceq σ))
        | (have h89 := h88; rw [ev, if_pos (em.mp h89)]; exact hω.p)
        | (rw [ev, if_neg (fun z => h88 (em.mpr z))]; exact hω.p))
      · refine R_iload hC dX11_adjoint_91 rfl (R_goto hC 99 dX11_adjoint_93 (by decide) ?_)
        exact R_iret hC hT dX11_adjoint_99 rfl (by
        first
        | (rw [no (fun z => b2i_0 h15 (hTB.inT_iff.mpr ⟨z.1, z.2.1⟩))]; exact MPost.i h1 (M_ceq σ))
        | (rw [no (fun z => h32 (eRC.mpr z.2.2))]; exact MPost.i h1 (M_ceq σ))
        | (have h89 := h88; rw [ev, if_pos (em.mp h89)]; exact hω.p)
        | (rw [ev, if_neg (fun z => h88 (em.mpr z))]; exact hω.p))
    · refine R_ldc hC dX11_adjoint_35 kc_X11_133 ?_
      exact R_iret hC hT dX11_adjoint_37 rfl (by
      first
      | (rw [no (fun z => b2i_0 h15 (hTB.inT_iff.mpr ⟨z.1, z.2.1⟩))]; exact MPost.i h1 (M_ceq σ))
      | (rw [no (fun z => h32 (eRC.mpr z.2.2))]; exact MPost.i h1 (M_ceq σ))
      | (have h89 := h88; rw [ev, if_pos (em.mp h89)]; exact hω.p)
      | (rw [ev, if_neg (fun z => h88 (em.mpr z))]; exact hω.p))
end
