-- ===== PART A: goes FIRST, ahead of the names: the tables' words, and 'selects' of the private methods out of them =====
/-- a private method of a class that the tables say can be made, by its rows of tables_1 -/
def lw_okq (q : MethodName × Nat) : Prop := (q.1.cls ≠ "java/lang/invoke/MethodHandle" ∧ q.1.cls ≠ "java/lang/invoke/VarHandle") ∧ Cond.instantiable q.1.cls q.2 ∈ tables_1 ∧ Cond.privateMethod q.1 ∈ tables_1 ∧ Cond.instanceMethod q.1 ∈ tables_1
theorem lw_p0 : lw_okq (⟨"RakeTables$Script", "digitsEnd", "(III)I"⟩, 2) := ⟨⟨by decide +kernel, by decide +kernel⟩, List.mem_of_getElem? (i := 168) (by decide +kernel), List.mem_of_getElem? (i := 390) (by decide +kernel), List.mem_of_getElem? (i := 391) (by decide +kernel)⟩
theorem lw_p1 : lw_okq (⟨"RakeTables", "doClauses", "()I"⟩, 13) := ⟨⟨by decide +kernel, by decide +kernel⟩, List.mem_of_getElem? (i := 17) (by decide +kernel), List.mem_of_getElem? (i := 398) (by decide +kernel), List.mem_of_getElem? (i := 399) (by decide +kernel)⟩
theorem lw_p2 : lw_okq (⟨"RakeTables", "isClauseDone", "(II)Z"⟩, 13) := ⟨⟨by decide +kernel, by decide +kernel⟩, List.mem_of_getElem? (i := 17) (by decide +kernel), List.mem_of_getElem? (i := 403) (by decide +kernel), List.mem_of_getElem? (i := 404) (by decide +kernel)⟩
theorem lw_p3 : lw_okq (⟨"RakeTables$Fraction", "cut", "(JJJ)V"⟩, 2) := ⟨⟨by decide +kernel, by decide +kernel⟩, List.mem_of_getElem? (i := 79) (by decide +kernel), List.mem_of_getElem? (i := 449) (by decide +kernel), List.mem_of_getElem? (i := 450) (by decide +kernel)⟩
theorem lw_p4 : lw_okq (⟨"RakeTables$Table", "isLineFitted", "(LRakeTables$Setting;II)Z"⟩, 5) := ⟨⟨by decide +kernel, by decide +kernel⟩, List.mem_of_getElem? (i := 73) (by decide +kernel), List.mem_of_getElem? (i := 468) (by decide +kernel), List.mem_of_getElem? (i := 469) (by decide +kernel)⟩
theorem lw_p5 : lw_okq (⟨"RakeTables", "isRoundDone", "(LRakeTables$Setting;LRakeTables$Table;)Z"⟩, 13) := ⟨⟨by decide +kernel, by decide +kernel⟩, List.mem_of_getElem? (i := 17) (by decide +kernel), List.mem_of_getElem? (i := 480) (by decide +kernel), List.mem_of_getElem? (i := 481) (by decide +kernel)⟩
theorem lw_p6 : lw_okq (⟨"RakeTables", "isGapFound", "(II)Z"⟩, 13) := ⟨⟨by decide +kernel, by decide +kernel⟩, List.mem_of_getElem? (i := 17) (by decide +kernel), List.mem_of_getElem? (i := 503) (by decide +kernel), List.mem_of_getElem? (i := 504) (by decide +kernel)⟩
theorem lw_p7 : lw_okq (⟨"RakeTables", "seekWidest", "()I"⟩, 13) := ⟨⟨by decide +kernel, by decide +kernel⟩, List.mem_of_getElem? (i := 17) (by decide +kernel), List.mem_of_getElem? (i := 515) (by decide +kernel), List.mem_of_getElem? (i := 516) (by decide +kernel)⟩
theorem lw_p8 : lw_okq (⟨"RakeTables$Setting", "marginsOf", "(I)I"⟩, 6) := ⟨⟨by decide +kernel, by decide +kernel⟩, List.mem_of_getElem? (i := 31) (by decide +kernel), List.mem_of_getElem? (i := 546) (by decide +kernel), List.mem_of_getElem? (i := 547) (by decide +kernel)⟩
theorem lw_p9 : lw_okq (⟨"RakeTables$Setting", "marginsReached", "(I)I"⟩, 6) := ⟨⟨by decide +kernel, by decide +kernel⟩, List.mem_of_getElem? (i := 31) (by decide +kernel), List.mem_of_getElem? (i := 550) (by decide +kernel), List.mem_of_getElem? (i := 551) (by decide +kernel)⟩
theorem lw_p10 : lw_okq (⟨"RakeTables$Setting", "isReached", "(II)Z"⟩, 6) := ⟨⟨by decide +kernel, by decide +kernel⟩, List.mem_of_getElem? (i := 31) (by decide +kernel), List.mem_of_getElem? (i := 554) (by decide +kernel), List.mem_of_getElem? (i := 555) (by decide +kernel)⟩
theorem lw_p11 : lw_okq (⟨"RakeTables$Rounding", "areSumsBounded", "(LRakeTables$Setting;LRakeTables$Table;)Z"⟩, 9) := ⟨⟨by decide +kernel, by decide +kernel⟩, List.mem_of_getElem? (i := 200) (by decide +kernel), List.mem_of_getElem? (i := 571) (by decide +kernel), List.mem_of_getElem? (i := 572) (by decide +kernel)⟩
theorem lw_p12 : lw_okq (⟨"RakeTables$Rounding", "boundLine", "(ILRakeTables$Fraction;)V"⟩, 9) := ⟨⟨by decide +kernel, by decide +kernel⟩, List.mem_of_getElem? (i := 200) (by decide +kernel), List.mem_of_getElem? (i := 578) (by decide +kernel), List.mem_of_getElem? (i := 579) (by decide +kernel)⟩
theorem lw_p13 : lw_okq (⟨"RakeTables$Rounding", "boundCells", "(LRakeTables$Table;)V"⟩, 9) := ⟨⟨by decide +kernel, by decide +kernel⟩, List.mem_of_getElem? (i := 200) (by decide +kernel), List.mem_of_getElem? (i := 588) (by decide +kernel), List.mem_of_getElem? (i := 589) (by decide +kernel)⟩
theorem lw_p14 : lw_okq (⟨"RakeTables$Rounding", "doColumnsStand", "()Z"⟩, 9) := ⟨⟨by decide +kernel, by decide +kernel⟩, List.mem_of_getElem? (i := 200) (by decide +kernel), List.mem_of_getElem? (i := 595) (by decide +kernel), List.mem_of_getElem? (i := 596) (by decide +kernel)⟩
theorem lw_p15 : lw_okq (⟨"RakeTables$Rounding", "stands", "(II)Z"⟩, 9) := ⟨⟨by decide +kernel, by decide +kernel⟩, List.mem_of_getElem? (i := 200) (by decide +kernel), List.mem_of_getElem? (i := 599) (by decide +kernel), List.mem_of_getElem? (i := 600) (by decide +kernel)⟩
def lw_privs_1 : List (MethodName × Nat) := [(⟨"RakeTables$Script", "digitsEnd", "(III)I"⟩, 2), (⟨"RakeTables", "doClauses", "()I"⟩, 13), (⟨"RakeTables", "isClauseDone", "(II)Z"⟩, 13), (⟨"RakeTables$Fraction", "cut", "(JJJ)V"⟩, 2), (⟨"RakeTables$Table", "isLineFitted", "(LRakeTables$Setting;II)Z"⟩, 5), (⟨"RakeTables", "isRoundDone", "(LRakeTables$Setting;LRakeTables$Table;)Z"⟩, 13), (⟨"RakeTables", "isGapFound", "(II)Z"⟩, 13), (⟨"RakeTables", "seekWidest", "()I"⟩, 13), (⟨"RakeTables$Setting", "marginsOf", "(I)I"⟩, 6), (⟨"RakeTables$Setting", "marginsReached", "(I)I"⟩, 6), (⟨"RakeTables$Setting", "isReached", "(II)Z"⟩, 6), (⟨"RakeTables$Rounding", "areSumsBounded", "(LRakeTables$Setting;LRakeTables$Table;)Z"⟩, 9), (⟨"RakeTables$Rounding", "boundLine", "(ILRakeTables$Fraction;)V"⟩, 9), (⟨"RakeTables$Rounding", "boundCells", "(LRakeTables$Table;)V"⟩, 9), (⟨"RakeTables$Rounding", "doColumnsStand", "()Z"⟩, 9), (⟨"RakeTables$Rounding", "stands", "(II)Z"⟩, 9)]
theorem lw_r1 : ∀ q ∈ lw_privs_1, lw_okq q := List.forall_mem_cons.mpr ⟨lw_p0, List.forall_mem_cons.mpr ⟨lw_p1, List.forall_mem_cons.mpr ⟨lw_p2, List.forall_mem_cons.mpr ⟨lw_p3, List.forall_mem_cons.mpr ⟨lw_p4, List.forall_mem_cons.mpr ⟨lw_p5, List.forall_mem_cons.mpr ⟨lw_p6, List.forall_mem_cons.mpr ⟨lw_p7, List.forall_mem_cons.mpr ⟨lw_p8, List.forall_mem_cons.mpr ⟨lw_p9, List.forall_mem_cons.mpr ⟨lw_p10, List.forall_mem_cons.mpr ⟨lw_p11, List.forall_mem_cons.mpr ⟨lw_p12, List.forall_mem_cons.mpr ⟨lw_p13, List.forall_mem_cons.mpr ⟨lw_p14, List.forall_mem_cons.mpr ⟨lw_p15, fun _ h => absurd h List.not_mem_nil⟩⟩⟩⟩⟩⟩⟩⟩⟩⟩⟩⟩⟩⟩⟩⟩
theorem lw_p16 : lw_okq (⟨"RakeTables$Rounding", "allPut", "()I"⟩, 9) := ⟨⟨by decide +kernel, by decide +kernel⟩, List.mem_of_getElem? (i := 200) (by decide +kernel), List.mem_of_getElem? (i := 603) (by decide +kernel), List.mem_of_getElem? (i := 604) (by decide +kernel)⟩
theorem lw_p17 : lw_okq (⟨"RakeTables$Rounding", "rowPut", "(I)I"⟩, 9) := ⟨⟨by decide +kernel, by decide +kernel⟩, List.mem_of_getElem? (i := 200) (by decide +kernel), List.mem_of_getElem? (i := 607) (by decide +kernel), List.mem_of_getElem? (i := 608) (by decide +kernel)⟩
theorem lw_p18 : lw_okq (⟨"RakeTables$Quotient", "append", "(JJ)V"⟩, 4) := ⟨⟨by decide +kernel, by decide +kernel⟩, List.mem_of_getElem? (i := 243) (by decide +kernel), List.mem_of_getElem? (i := 628) (by decide +kernel), List.mem_of_getElem? (i := 629) (by decide +kernel)⟩
theorem lw_p19 : lw_okq (⟨"RakeTables$Quotient", "cancel", "()V"⟩, 4) := ⟨⟨by decide +kernel, by decide +kernel⟩, List.mem_of_getElem? (i := 243) (by decide +kernel), List.mem_of_getElem? (i := 641) (by decide +kernel), List.mem_of_getElem? (i := 642) (by decide +kernel)⟩
theorem lw_p20 : lw_okq (⟨"RakeTables$Quotient", "productOf", "([J)J"⟩, 4) := ⟨⟨by decide +kernel, by decide +kernel⟩, List.mem_of_getElem? (i := 243) (by decide +kernel), List.mem_of_getElem? (i := 646) (by decide +kernel), List.mem_of_getElem? (i := 647) (by decide +kernel)⟩
theorem lw_p21 : lw_okq (⟨"RakeTables", "countAhead", "(I)I"⟩, 13) := ⟨⟨by decide +kernel, by decide +kernel⟩, List.mem_of_getElem? (i := 17) (by decide +kernel), List.mem_of_getElem? (i := 666) (by decide +kernel), List.mem_of_getElem? (i := 667) (by decide +kernel)⟩
theorem lw_p22 : lw_okq (⟨"RakeTables", "noteCell", "(LRakeTables$Notes;III)I"⟩, 13) := ⟨⟨by decide +kernel, by decide +kernel⟩, List.mem_of_getElem? (i := 17) (by decide +kernel), List.mem_of_getElem? (i := 681) (by decide +kernel), List.mem_of_getElem? (i := 682) (by decide +kernel)⟩
theorem lw_p23 : lw_okq (⟨"RakeTables", "isRoundedBehind", "(II)Z"⟩, 13) := ⟨⟨by decide +kernel, by decide +kernel⟩, List.mem_of_getElem? (i := 17) (by decide +kernel), List.mem_of_getElem? (i := 694) (by decide +kernel), List.mem_of_getElem? (i := 695) (by decide +kernel)⟩
theorem lw_p24 : lw_okq (⟨"RakeTables", "firstOtherwise", "(LRakeTables$Notes;)I"⟩, 13) := ⟨⟨by decide +kernel, by decide +kernel⟩, List.mem_of_getElem? (i := 17) (by decide +kernel), List.mem_of_getElem? (i := 703) (by decide +kernel), List.mem_of_getElem? (i := 704) (by decide +kernel)⟩
theorem lw_p25 : lw_okq (⟨"RakeTables$Setting", "raise", "(II)V"⟩, 6) := ⟨⟨by decide +kernel, by decide +kernel⟩, List.mem_of_getElem? (i := 31) (by decide +kernel), List.mem_of_getElem? (i := 729) (by decide +kernel), List.mem_of_getElem? (i := 730) (by decide +kernel)⟩
theorem lw_p26 : lw_okq (⟨"RakeTablesModel", "isCell", "(II)Z"⟩, 25) := ⟨⟨by decide +kernel, by decide +kernel⟩, List.mem_of_getElem? (i := 837) (by decide +kernel), List.mem_of_getElem? (i := 937) (by decide +kernel), List.mem_of_getElem? (i := 938) (by decide +kernel)⟩
theorem lw_p27 : lw_okq (⟨"RakeTablesModel", "becomes", "(II)I"⟩, 25) := ⟨⟨by decide +kernel, by decide +kernel⟩, List.mem_of_getElem? (i := 837) (by decide +kernel), List.mem_of_getElem? (i := 947) (by decide +kernel), List.mem_of_getElem? (i := 948) (by decide +kernel)⟩
theorem lw_p28 : lw_okq (⟨"RakeTablesModel", "isLine", "(II)Z"⟩, 25) := ⟨⟨by decide +kernel, by decide +kernel⟩, List.mem_of_getElem? (i := 837) (by decide +kernel), List.mem_of_getElem? (i := 955) (by decide +kernel), List.mem_of_getElem? (i := 956) (by decide +kernel)⟩
theorem lw_p29 : lw_okq (⟨"RakeTablesModel", "linesOf", "(I)I"⟩, 25) := ⟨⟨by decide +kernel, by decide +kernel⟩, List.mem_of_getElem? (i := 837) (by decide +kernel), List.mem_of_getElem? (i := 959) (by decide +kernel), List.mem_of_getElem? (i := 960) (by decide +kernel)⟩
theorem lw_p30 : lw_okq (⟨"RakeTablesModel", "marginAt", "(II)I"⟩, 25) := ⟨⟨by decide +kernel, by decide +kernel⟩, List.mem_of_getElem? (i := 837) (by decide +kernel), List.mem_of_getElem? (i := 976) (by decide +kernel), List.mem_of_getElem? (i := 977) (by decide +kernel)⟩
theorem lw_p31 : lw_okq (⟨"RakeTablesModel", "readsAll", "()I"⟩, 25) := ⟨⟨by decide +kernel, by decide +kernel⟩, List.mem_of_getElem? (i := 837) (by decide +kernel), List.mem_of_getElem? (i := 989) (by decide +kernel), List.mem_of_getElem? (i := 990) (by decide +kernel)⟩
def lw_privs_2 : List (MethodName × Nat) := [(⟨"RakeTables$Rounding", "allPut", "()I"⟩, 9), (⟨"RakeTables$Rounding", "rowPut", "(I)I"⟩, 9), (⟨"RakeTables$Quotient", "append", "(JJ)V"⟩, 4), (⟨"RakeTables$Quotient", "cancel", "()V"⟩, 4), (⟨"RakeTables$Quotient", "productOf", "([J)J"⟩, 4), (⟨"RakeTables", "countAhead", "(I)I"⟩, 13), (⟨"RakeTables", "noteCell", "(LRakeTables$Notes;III)I"⟩, 13), (⟨"RakeTables", "isRoundedBehind", "(II)Z"⟩, 13), (⟨"RakeTables", "firstOtherwise", "(LRakeTables$Notes;)I"⟩, 13), (⟨"RakeTables$Setting", "raise", "(II)V"⟩, 6), (⟨"RakeTablesModel", "isCell", "(II)Z"⟩, 25), (⟨"RakeTablesModel", "becomes", "(II)I"⟩, 25), (⟨"RakeTablesModel", "isLine", "(II)Z"⟩, 25), (⟨"RakeTablesModel", "linesOf", "(I)I"⟩, 25), (⟨"RakeTablesModel", "marginAt", "(II)I"⟩, 25), (⟨"RakeTablesModel", "readsAll", "()I"⟩, 25)]
theorem lw_r2 : ∀ q ∈ lw_privs_2, lw_okq q := List.forall_mem_cons.mpr ⟨lw_p16, List.forall_mem_cons.mpr ⟨lw_p17, List.forall_mem_cons.mpr ⟨lw_p18, List.forall_mem_cons.mpr ⟨lw_p19, List.forall_mem_cons.mpr ⟨lw_p20, List.forall_mem_cons.mpr ⟨lw_p21, List.forall_mem_cons.mpr ⟨lw_p22, List.forall_mem_cons.mpr ⟨lw_p23, List.forall_mem_cons.mpr ⟨lw_p24, List.forall_mem_cons.mpr ⟨lw_p25, List.forall_mem_cons.mpr ⟨lw_p26, List.forall_mem_cons.mpr ⟨lw_p27, List.forall_mem_cons.mpr ⟨lw_p28, List.forall_mem_cons.mpr ⟨lw_p29, List.forall_mem_cons.mpr ⟨lw_p30, List.forall_mem_cons.mpr ⟨lw_p31, fun _ h => absurd h List.not_mem_nil⟩⟩⟩⟩⟩⟩⟩⟩⟩⟩⟩⟩⟩⟩⟩⟩
theorem lw_p32 : lw_okq (⟨"RakeTablesModel", "readsClause", "(II)I"⟩, 25) := ⟨⟨by decide +kernel, by decide +kernel⟩, List.mem_of_getElem? (i := 837) (by decide +kernel), List.mem_of_getElem? (i := 993) (by decide +kernel), List.mem_of_getElem? (i := 994) (by decide +kernel)⟩
theorem lw_p33 : lw_okq (⟨"RakeTablesModel", "isDigit", "(I)Z"⟩, 25) := ⟨⟨by decide +kernel, by decide +kernel⟩, List.mem_of_getElem? (i := 837) (by decide +kernel), List.mem_of_getElem? (i := 1003) (by decide +kernel), List.mem_of_getElem? (i := 1004) (by decide +kernel)⟩
theorem lw_p34 : lw_okq (⟨"RakeTablesModel", "does", "(I)Z"⟩, 25) := ⟨⟨by decide +kernel, by decide +kernel⟩, List.mem_of_getElem? (i := 837) (by decide +kernel), List.mem_of_getElem? (i := 1009) (by decide +kernel), List.mem_of_getElem? (i := 1010) (by decide +kernel)⟩
theorem lw_p35 : lw_okq (⟨"RakeTablesModel", "fits", "(I)I"⟩, 25) := ⟨⟨by decide +kernel, by decide +kernel⟩, List.mem_of_getElem? (i := 837) (by decide +kernel), List.mem_of_getElem? (i := 1020) (by decide +kernel), List.mem_of_getElem? (i := 1021) (by decide +kernel)⟩
theorem lw_p36 : lw_okq (⟨"RakeTablesModel", "sums", "(II)Z"⟩, 25) := ⟨⟨by decide +kernel, by decide +kernel⟩, List.mem_of_getElem? (i := 837) (by decide +kernel), List.mem_of_getElem? (i := 1024) (by decide +kernel), List.mem_of_getElem? (i := 1025) (by decide +kernel)⟩
theorem lw_p37 : lw_okq (⟨"RakeTablesModel", "isIn", "(III)Z"⟩, 25) := ⟨⟨by decide +kernel, by decide +kernel⟩, List.mem_of_getElem? (i := 837) (by decide +kernel), List.mem_of_getElem? (i := 1028) (by decide +kernel), List.mem_of_getElem? (i := 1029) (by decide +kernel)⟩
theorem lw_p38 : lw_okq (⟨"RakeTablesModel", "isHere", "(I)Z"⟩, 25) := ⟨⟨by decide +kernel, by decide +kernel⟩, List.mem_of_getElem? (i := 837) (by decide +kernel), List.mem_of_getElem? (i := 1032) (by decide +kernel), List.mem_of_getElem? (i := 1033) (by decide +kernel)⟩
theorem lw_p39 : lw_okq (⟨"RakeTablesModel", "adds", "(JJ)Z"⟩, 25) := ⟨⟨by decide +kernel, by decide +kernel⟩, List.mem_of_getElem? (i := 837) (by decide +kernel), List.mem_of_getElem? (i := 1036) (by decide +kernel), List.mem_of_getElem? (i := 1037) (by decide +kernel)⟩
theorem lw_p40 : lw_okq (⟨"RakeTablesModel", "worksOut", "(JJ)Z"⟩, 25) := ⟨⟨by decide +kernel, by decide +kernel⟩, List.mem_of_getElem? (i := 837) (by decide +kernel), List.mem_of_getElem? (i := 1040) (by decide +kernel), List.mem_of_getElem? (i := 1041) (by decide +kernel)⟩
theorem lw_p41 : lw_okq (⟨"RakeTablesModel", "fitsLine", "(IIJJ)Z"⟩, 25) := ⟨⟨by decide +kernel, by decide +kernel⟩, List.mem_of_getElem? (i := 837) (by decide +kernel), List.mem_of_getElem? (i := 1048) (by decide +kernel), List.mem_of_getElem? (i := 1049) (by decide +kernel)⟩
theorem lw_p42 : lw_okq (⟨"RakeTablesModel", "goesRound", "()Z"⟩, 25) := ⟨⟨by decide +kernel, by decide +kernel⟩, List.mem_of_getElem? (i := 837) (by decide +kernel), List.mem_of_getElem? (i := 1056) (by decide +kernel), List.mem_of_getElem? (i := 1057) (by decide +kernel)⟩
theorem lw_p43 : lw_okq (⟨"RakeTablesModel", "gaps", "(I)V"⟩, 25) := ⟨⟨by decide +kernel, by decide +kernel⟩, List.mem_of_getElem? (i := 837) (by decide +kernel), List.mem_of_getElem? (i := 1077) (by decide +kernel), List.mem_of_getElem? (i := 1078) (by decide +kernel)⟩
theorem lw_p44 : lw_okq (⟨"RakeTablesModel", "settled", "()I"⟩, 25) := ⟨⟨by decide +kernel, by decide +kernel⟩, List.mem_of_getElem? (i := 837) (by decide +kernel), List.mem_of_getElem? (i := 1089) (by decide +kernel), List.mem_of_getElem? (i := 1090) (by decide +kernel)⟩
theorem lw_p45 : lw_okq (⟨"RakeTablesModel", "possible", "()I"⟩, 25) := ⟨⟨by decide +kernel, by decide +kernel⟩, List.mem_of_getElem? (i := 837) (by decide +kernel), List.mem_of_getElem? (i := 1094) (by decide +kernel), List.mem_of_getElem? (i := 1095) (by decide +kernel)⟩
theorem lw_p46 : lw_okq (⟨"RakeTablesModel", "surplus", "()I"⟩, 25) := ⟨⟨by decide +kernel, by decide +kernel⟩, List.mem_of_getElem? (i := 837) (by decide +kernel), List.mem_of_getElem? (i := 1098) (by decide +kernel), List.mem_of_getElem? (i := 1099) (by decide +kernel)⟩
theorem lw_p47 : lw_okq (⟨"RakeTablesModel", "rowsTogether", "(I)I"⟩, 25) := ⟨⟨by decide +kernel, by decide +kernel⟩, List.mem_of_getElem? (i := 837) (by decide +kernel), List.mem_of_getElem? (i := 1102) (by decide +kernel), List.mem_of_getElem? (i := 1103) (by decide +kernel)⟩
def lw_privs_3 : List (MethodName × Nat) := [(⟨"RakeTablesModel", "readsClause", "(II)I"⟩, 25), (⟨"RakeTablesModel", "isDigit", "(I)Z"⟩, 25), (⟨"RakeTablesModel", "does", "(I)Z"⟩, 25), (⟨"RakeTablesModel", "fits", "(I)I"⟩, 25), (⟨"RakeTablesModel", "sums", "(II)Z"⟩, 25), (⟨"RakeTablesModel", "isIn", "(III)Z"⟩, 25), (⟨"RakeTablesModel", "isHere", "(I)Z"⟩, 25), (⟨"RakeTablesModel", "adds", "(JJ)Z"⟩, 25), (⟨"RakeTablesModel", "worksOut", "(JJ)Z"⟩, 25), (⟨"RakeTablesModel", "fitsLine", "(IIJJ)Z"⟩, 25), (⟨"RakeTablesModel", "goesRound", "()Z"⟩, 25), (⟨"RakeTablesModel", "gaps", "(I)V"⟩, 25), (⟨"RakeTablesModel", "settled", "()I"⟩, 25), (⟨"RakeTablesModel", "possible", "()I"⟩, 25), (⟨"RakeTablesModel", "surplus", "()I"⟩, 25), (⟨"RakeTablesModel", "rowsTogether", "(I)I"⟩, 25)]
theorem lw_r3 : ∀ q ∈ lw_privs_3, lw_okq q := List.forall_mem_cons.mpr ⟨lw_p32, List.forall_mem_cons.mpr ⟨lw_p33, List.forall_mem_cons.mpr ⟨lw_p34, List.forall_mem_cons.mpr ⟨lw_p35, List.forall_mem_cons.mpr ⟨lw_p36, List.forall_mem_cons.mpr ⟨lw_p37, List.forall_mem_cons.mpr ⟨lw_p38, List.forall_mem_cons.mpr ⟨lw_p39, List.forall_mem_cons.mpr ⟨lw_p40, List.forall_mem_cons.mpr ⟨lw_p41, List.forall_mem_cons.mpr ⟨lw_p42, List.forall_mem_cons.mpr ⟨lw_p43, List.forall_mem_cons.mpr ⟨lw_p44, List.forall_mem_cons.mpr ⟨lw_p45, List.forall_mem_cons.mpr ⟨lw_p46, List.forall_mem_cons.mpr ⟨lw_p47, fun _ h => absurd h List.not_mem_nil⟩⟩⟩⟩⟩⟩⟩⟩⟩⟩⟩⟩⟩⟩⟩⟩
theorem lw_p48 : lw_okq (⟨"RakeTablesModel", "forbids", "()I"⟩, 25) := ⟨⟨by decide +kernel, by decide +kernel⟩, List.mem_of_getElem? (i := 837) (by decide +kernel), List.mem_of_getElem? (i := 1106) (by decide +kernel), List.mem_of_getElem? (i := 1107) (by decide +kernel)⟩
theorem lw_p49 : lw_okq (⟨"RakeTablesModel", "reached", "(I)I"⟩, 25) := ⟨⟨by decide +kernel, by decide +kernel⟩, List.mem_of_getElem? (i := 837) (by decide +kernel), List.mem_of_getElem? (i := 1110) (by decide +kernel), List.mem_of_getElem? (i := 1111) (by decide +kernel)⟩
theorem lw_p50 : lw_okq (⟨"RakeTablesModel", "allCounts", "()I"⟩, 25) := ⟨⟨by decide +kernel, by decide +kernel⟩, List.mem_of_getElem? (i := 837) (by decide +kernel), List.mem_of_getElem? (i := 1117) (by decide +kernel), List.mem_of_getElem? (i := 1118) (by decide +kernel)⟩
theorem lw_p51 : lw_okq (⟨"RakeTablesModel", "isRounded", "()Z"⟩, 25) := ⟨⟨by decide +kernel, by decide +kernel⟩, List.mem_of_getElem? (i := 837) (by decide +kernel), List.mem_of_getElem? (i := 1125) (by decide +kernel), List.mem_of_getElem? (i := 1126) (by decide +kernel)⟩
theorem lw_p52 : lw_okq (⟨"RakeTablesModel", "hasLimits", "()Z"⟩, 25) := ⟨⟨by decide +kernel, by decide +kernel⟩, List.mem_of_getElem? (i := 837) (by decide +kernel), List.mem_of_getElem? (i := 1129) (by decide +kernel), List.mem_of_getElem? (i := 1130) (by decide +kernel)⟩
theorem lw_p53 : lw_okq (⟨"RakeTablesModel", "down", "()I"⟩, 25) := ⟨⟨by decide +kernel, by decide +kernel⟩, List.mem_of_getElem? (i := 837) (by decide +kernel), List.mem_of_getElem? (i := 1133) (by decide +kernel), List.mem_of_getElem? (i := 1134) (by decide +kernel)⟩
theorem lw_p54 : lw_okq (⟨"RakeTablesModel", "up", "()I"⟩, 25) := ⟨⟨by decide +kernel, by decide +kernel⟩, List.mem_of_getElem? (i := 837) (by decide +kernel), List.mem_of_getElem? (i := 1137) (by decide +kernel), List.mem_of_getElem? (i := 1138) (by decide +kernel)⟩
theorem lw_p55 : lw_okq (⟨"RakeTablesModel", "goesOn", "(I)Z"⟩, 25) := ⟨⟨by decide +kernel, by decide +kernel⟩, List.mem_of_getElem? (i := 837) (by decide +kernel), List.mem_of_getElem? (i := 1141) (by decide +kernel), List.mem_of_getElem? (i := 1142) (by decide +kernel)⟩
theorem lw_p56 : lw_okq (⟨"RakeTablesModel", "fitsWhole", "()Z"⟩, 25) := ⟨⟨by decide +kernel, by decide +kernel⟩, List.mem_of_getElem? (i := 837) (by decide +kernel), List.mem_of_getElem? (i := 1145) (by decide +kernel), List.mem_of_getElem? (i := 1146) (by decide +kernel)⟩
theorem lw_p57 : lw_okq (⟨"RakeTablesModel", "togetherOf", "(II)I"⟩, 25) := ⟨⟨by decide +kernel, by decide +kernel⟩, List.mem_of_getElem? (i := 837) (by decide +kernel), List.mem_of_getElem? (i := 1149) (by decide +kernel), List.mem_of_getElem? (i := 1150) (by decide +kernel)⟩
theorem lw_p58 : lw_okq (⟨"RakeTablesModel", "ratio", "(IIZ)V"⟩, 25) := ⟨⟨by decide +kernel, by decide +kernel⟩, List.mem_of_getElem? (i := 837) (by decide +kernel), List.mem_of_getElem? (i := 1161) (by decide +kernel), List.mem_of_getElem? (i := 1162) (by decide +kernel)⟩
theorem lw_p59 : lw_okq (⟨"RakeTablesModel", "isAhead", "(II)Z"⟩, 25) := ⟨⟨by decide +kernel, by decide +kernel⟩, List.mem_of_getElem? (i := 837) (by decide +kernel), List.mem_of_getElem? (i := 1177) (by decide +kernel), List.mem_of_getElem? (i := 1178) (by decide +kernel)⟩
theorem lw_p60 : lw_okq (⟨"RakeTablesModel", "lists", "(IIIIII)I"⟩, 25) := ⟨⟨by decide +kernel, by decide +kernel⟩, List.mem_of_getElem? (i := 837) (by decide +kernel), List.mem_of_getElem? (i := 1185) (by decide +kernel), List.mem_of_getElem? (i := 1186) (by decide +kernel)⟩
theorem lw_p61 : lw_okq (⟨"RakeTablesModel", "keeps", "()V"⟩, 25) := ⟨⟨by decide +kernel, by decide +kernel⟩, List.mem_of_getElem? (i := 837) (by decide +kernel), List.mem_of_getElem? (i := 1193) (by decide +kernel), List.mem_of_getElem? (i := 1194) (by decide +kernel)⟩
theorem lw_p62 : lw_okq (⟨"RakeTablesModel", "isRoundedBy", "(II)Z"⟩, 25) := ⟨⟨by decide +kernel, by decide +kernel⟩, List.mem_of_getElem? (i := 837) (by decide +kernel), List.mem_of_getElem? (i := 1197) (by decide +kernel), List.mem_of_getElem? (i := 1198) (by decide +kernel)⟩
theorem lw_p63 : lw_okq (⟨"RakeTablesModel", "firstOtherwise", "(II)I"⟩, 25) := ⟨⟨by decide +kernel, by decide +kernel⟩, List.mem_of_getElem? (i := 837) (by decide +kernel), List.mem_of_getElem? (i := 1201) (by decide +kernel), List.mem_of_getElem? (i := 1202) (by decide +kernel)⟩
def lw_privs_4 : List (MethodName × Nat) := [(⟨"RakeTablesModel", "forbids", "()I"⟩, 25), (⟨"RakeTablesModel", "reached", "(I)I"⟩, 25), (⟨"RakeTablesModel", "allCounts", "()I"⟩, 25), (⟨"RakeTablesModel", "isRounded", "()Z"⟩, 25), (⟨"RakeTablesModel", "hasLimits", "()Z"⟩, 25), (⟨"RakeTablesModel", "down", "()I"⟩, 25), (⟨"RakeTablesModel", "up", "()I"⟩, 25), (⟨"RakeTablesModel", "goesOn", "(I)Z"⟩, 25), (⟨"RakeTablesModel", "fitsWhole", "()Z"⟩, 25), (⟨"RakeTablesModel", "togetherOf", "(II)I"⟩, 25), (⟨"RakeTablesModel", "ratio", "(IIZ)V"⟩, 25), (⟨"RakeTablesModel", "isAhead", "(II)Z"⟩, 25), (⟨"RakeTablesModel", "lists", "(IIIIII)I"⟩, 25), (⟨"RakeTablesModel", "keeps", "()V"⟩, 25), (⟨"RakeTablesModel", "isRoundedBy", "(II)Z"⟩, 25), (⟨"RakeTablesModel", "firstOtherwise", "(II)I"⟩, 25)]
theorem lw_r4 : ∀ q ∈ lw_privs_4, lw_okq q := List.forall_mem_cons.mpr ⟨lw_p48, List.forall_mem_cons.mpr ⟨lw_p49, List.forall_mem_cons.mpr ⟨lw_p50, List.forall_mem_cons.mpr ⟨lw_p51, List.forall_mem_cons.mpr ⟨lw_p52, List.forall_mem_cons.mpr ⟨lw_p53, List.forall_mem_cons.mpr ⟨lw_p54, List.forall_mem_cons.mpr ⟨lw_p55, List.forall_mem_cons.mpr ⟨lw_p56, List.forall_mem_cons.mpr ⟨lw_p57, List.forall_mem_cons.mpr ⟨lw_p58, List.forall_mem_cons.mpr ⟨lw_p59, List.forall_mem_cons.mpr ⟨lw_p60, List.forall_mem_cons.mpr ⟨lw_p61, List.forall_mem_cons.mpr ⟨lw_p62, List.forall_mem_cons.mpr ⟨lw_p63, fun _ h => absurd h List.not_mem_nil⟩⟩⟩⟩⟩⟩⟩⟩⟩⟩⟩⟩⟩⟩⟩⟩
theorem lw_p64 : lw_okq (⟨"RakeTablesModel", "laysBack", "()V"⟩, 25) := ⟨⟨by decide +kernel, by decide +kernel⟩, List.mem_of_getElem? (i := 837) (by decide +kernel), List.mem_of_getElem? (i := 1205) (by decide +kernel), List.mem_of_getElem? (i := 1206) (by decide +kernel)⟩
theorem lw_p65 : lw_okq (⟨"RakeTablesModel", "isOf", "(II)Z"⟩, 25) := ⟨⟨by decide +kernel, by decide +kernel⟩, List.mem_of_getElem? (i := 837) (by decide +kernel), List.mem_of_getElem? (i := 1222) (by decide +kernel), List.mem_of_getElem? (i := 1223) (by decide +kernel)⟩
theorem lw_p66 : lw_okq (⟨"RakeTablesModel", "happens", "(II)V"⟩, 25) := ⟨⟨by decide +kernel, by decide +kernel⟩, List.mem_of_getElem? (i := 837) (by decide +kernel), List.mem_of_getElem? (i := 1230) (by decide +kernel), List.mem_of_getElem? (i := 1231) (by decide +kernel)⟩
theorem lw_p67 : lw_okq (⟨"RakeTablesModel", "cells", "()I"⟩, 25) := ⟨⟨by decide +kernel, by decide +kernel⟩, List.mem_of_getElem? (i := 837) (by decide +kernel), List.mem_of_getElem? (i := 1247) (by decide +kernel), List.mem_of_getElem? (i := 1248) (by decide +kernel)⟩
theorem lw_p68 : lw_okq (⟨"RakeTablesModel", "hasItem", "(II)Z"⟩, 25) := ⟨⟨by decide +kernel, by decide +kernel⟩, List.mem_of_getElem? (i := 837) (by decide +kernel), List.mem_of_getElem? (i := 1273) (by decide +kernel), List.mem_of_getElem? (i := 1274) (by decide +kernel)⟩
def lw_privs_5 : List (MethodName × Nat) := [(⟨"RakeTablesModel", "laysBack", "()V"⟩, 25), (⟨"RakeTablesModel", "isOf", "(II)Z"⟩, 25), (⟨"RakeTablesModel", "happens", "(II)V"⟩, 25), (⟨"RakeTablesModel", "cells", "()I"⟩, 25), (⟨"RakeTablesModel", "hasItem", "(II)Z"⟩, 25)]
theorem lw_r5 : ∀ q ∈ lw_privs_5, lw_okq q := List.forall_mem_cons.mpr ⟨lw_p64, List.forall_mem_cons.mpr ⟨lw_p65, List.forall_mem_cons.mpr ⟨lw_p66, List.forall_mem_cons.mpr ⟨lw_p67, List.forall_mem_cons.mpr ⟨lw_p68, fun _ h => absurd h List.not_mem_nil⟩⟩⟩⟩⟩
def lw_privs : List (MethodName × Nat) := lw_privs_1 ++ (lw_privs_2 ++ (lw_privs_3 ++ (lw_privs_4 ++ (lw_privs_5))))
def lw_tbl : List Cond := k2_sels lw_privs ++ tables_1
theorem lw_privs_ok : ∀ q ∈ lw_privs, lw_okq q := by
  show ∀ q ∈ lw_privs_1 ++ (lw_privs_2 ++ (lw_privs_3 ++ (lw_privs_4 ++ (lw_privs_5)))), lw_okq q
  exact List.forall_mem_append.mpr ⟨lw_r1, List.forall_mem_append.mpr ⟨lw_r2, List.forall_mem_append.mpr ⟨lw_r3, List.forall_mem_append.mpr ⟨lw_r4, lw_r5⟩⟩⟩⟩
-- ===== end of PART A; then your names; then what follows =====
/-! ===== BEGIN printed: names, fields, word lists, decode rows ===== -/
def RX0 : String := "RakeTables$Fraction"
def TX0 : u_T := fun k => match k with
  | 0 => ("RakeTables$Fraction", "above", "J", false)
  | _ => ("RakeTables$Fraction", "below", "J", false)
def tyX0 : Nat → FieldType := fun k => match k with
  | 0 => .long
  | _ => .long
theorem nmX0 : ∀ a, a < 2 → ∀ b, b < 2 → a ≠ b → (TX0 a).2.1 ≠ (TX0 b).2.1 := by decide +kernel
theorem tyX0_ok : ∀ k, k < 2 → parseFieldDescriptor (TX0 k).2.2.1 = some (tyX0 k) := by decide +kernel
abbrev cX0_init : ByteArray := prog_2_method_1_code
def yX0_init : MethodName := ⟨RX0, "<init>", "()V"⟩
abbrev cX0_become : ByteArray := prog_2_method_2_code
def yX0_become : MethodName := ⟨RX0, "become", "(JJ)V"⟩
abbrev cX0_add : ByteArray := prog_2_method_3_code
def yX0_add : MethodName := ⟨RX0, "add", "(JJ)V"⟩
abbrev cX0_cut : ByteArray := prog_2_method_4_code
def yX0_cut : MethodName := ⟨RX0, "cut", "(JJJ)V"⟩
abbrev cX0_isFine : ByteArray := prog_2_method_5_code
def yX0_isFine : MethodName := ⟨RX0, "isFine", "()Z"⟩
abbrev cX0_isMoreThan : ByteArray := prog_2_method_6_code
def yX0_isMoreThan : MethodName := ⟨RX0, "isMoreThan", "(LRakeTables$Fraction;)Z"⟩
abbrev cX0_partOf : ByteArray := prog_2_method_7_code
def yX0_partOf : MethodName := ⟨RX0, "partOf", "(I)J"⟩
abbrev cX0_commonOf : ByteArray := prog_2_method_8_code
def yX0_commonOf : MethodName := ⟨RX0, "commonOf", "(JJ)J"⟩
abbrev cX0_product : ByteArray := prog_2_method_9_code
def yX0_product : MethodName := ⟨RX0, "product", "(JJ)J"⟩
abbrev cX0_timesBy : ByteArray := prog_2_method_10_code
def yX0_timesBy : MethodName := ⟨RX0, "timesBy", "(JJJ)J"⟩
def RX1 : String := "RakeTables$Notes"
def TX1 : u_T := fun k => match k with
  | 0 => ("RakeTables$Notes", "most", "I", true)
  | 1 => ("RakeTables$Notes", "size", "I", false)
  | 2 => ("RakeTables$Notes", "places", "[I", true)
  | _ => ("RakeTables$Notes", "numbers", "[I", true)
def tyX1 : Nat → FieldType := fun k => match k with
  | 0 => .int
  | 1 => .int
  | 2 => .array .int
  | _ => .array .int
theorem nmX1 : ∀ a, a < 4 → ∀ b, b < 4 → a ≠ b → (TX1 a).2.1 ≠ (TX1 b).2.1 := by decide +kernel
theorem tyX1_ok : ∀ k, k < 4 → parseFieldDescriptor (TX1 k).2.2.1 = some (tyX1 k) := by decide +kernel
abbrev cX1_init : ByteArray := prog_3_method_1_code
def yX1_init : MethodName := ⟨RX1, "<init>", "(I)V"⟩
abbrev cX1_empty : ByteArray := prog_3_method_2_code
def yX1_empty : MethodName := ⟨RX1, "empty", "()I"⟩
abbrev cX1_append : ByteArray := prog_3_method_3_code
def yX1_append : MethodName := ⟨RX1, "append", "(II)I"⟩
abbrev cX1_copyFrom : ByteArray := prog_3_method_4_code
def yX1_copyFrom : MethodName := ⟨RX1, "copyFrom", "(LRakeTables$Notes;)V"⟩
def RX2 : String := "RakeTables$Picture"
def TX2 : u_T := fun k => match k with
  | 0 => ("RakeTables$Picture", "setting", "LRakeTables$Setting;", true)
  | 1 => ("RakeTables$Picture", "table", "LRakeTables$Table;", true)
  | 2 => ("RakeTables$Picture", "seen", "LRakeTables$Notes;", true)
  | 3 => ("RakeTables$Picture", "events", "LRakeTables$Notes;", true)
  | _ => ("RakeTables$Picture", "book", "LRakeTables$Notes;", true)
def tyX2 : Nat → FieldType := fun k => match k with
  | 0 => .object "RakeTables$Setting"
  | 1 => .object "RakeTables$Table"
  | 2 => .object "RakeTables$Notes"
  | 3 => .object "RakeTables$Notes"
  | _ => .object "RakeTables$Notes"
theorem nmX2 : ∀ a, a < 5 → ∀ b, b < 5 → a ≠ b → (TX2 a).2.1 ≠ (TX2 b).2.1 := by decide +kernel
theorem tyX2_ok : ∀ k, k < 5 → parseFieldDescriptor (TX2 k).2.2.1 = some (tyX2 k) := by decide +kernel
abbrev cX2_init : ByteArray := prog_4_method_1_code
def yX2_init : MethodName := ⟨RX2, "<init>", "()V"⟩
abbrev cX2_become : ByteArray := prog_4_method_2_code
def yX2_become : MethodName := ⟨RX2, "become", "(II)V"⟩
abbrev cX2_copyFrom : ByteArray := prog_4_method_3_code
def yX2_copyFrom : MethodName := ⟨RX2, "copyFrom", "(LRakeTables$Picture;)V"⟩
def RX3 : String := "RakeTables$Quotient"
def TX3 : u_T := fun k => match k with
  | 0 => ("RakeTables$Quotient", "above", "[J", true)
  | 1 => ("RakeTables$Quotient", "below", "[J", true)
  | 2 => ("RakeTables$Quotient", "size", "I", false)
  | _ => ("RakeTables$Quotient", "isByZero", "Z", false)
def tyX3 : Nat → FieldType := fun k => match k with
  | 0 => .array .long
  | 1 => .array .long
  | 2 => .int
  | _ => .boolean
theorem nmX3 : ∀ a, a < 4 → ∀ b, b < 4 → a ≠ b → (TX3 a).2.1 ≠ (TX3 b).2.1 := by decide +kernel
theorem tyX3_ok : ∀ k, k < 4 → parseFieldDescriptor (TX3 k).2.2.1 = some (tyX3 k) := by decide +kernel
abbrev cX3_init : ByteArray := prog_5_method_1_code
def yX3_init : MethodName := ⟨RX3, "<init>", "()V"⟩
abbrev cX3_clear : ByteArray := prog_5_method_2_code
def yX3_clear : MethodName := ⟨RX3, "clear", "()V"⟩
abbrev cX3_times : ByteArray := prog_5_method_3_code
def yX3_times : MethodName := ⟨RX3, "times", "(LRakeTables$Table;I)V"⟩
abbrev cX3_by : ByteArray := prog_5_method_4_code
def yX3_by : MethodName := ⟨RX3, "by", "(LRakeTables$Table;I)V"⟩
abbrev cX3_append : ByteArray := prog_5_method_5_code
def yX3_append : MethodName := ⟨RX3, "append", "(JJ)V"⟩
abbrev cX3_partOf : ByteArray := prog_5_method_6_code
def yX3_partOf : MethodName := ⟨RX3, "partOf", "(I)J"⟩
abbrev cX3_cancel : ByteArray := prog_5_method_7_code
def yX3_cancel : MethodName := ⟨RX3, "cancel", "()V"⟩
abbrev cX3_productOf : ByteArray := prog_5_method_8_code
def yX3_productOf : MethodName := ⟨RX3, "productOf", "([J)J"⟩
def RX4 : String := "RakeTables$Rounding"
def TX4 : u_T := fun k => match k with
  | 0 => ("RakeTables$Rounding", "values", "[I", true)
  | 1 => ("RakeTables$Rounding", "lowest", "[I", true)
  | 2 => ("RakeTables$Rounding", "highest", "[I", true)
  | 3 => ("RakeTables$Rounding", "least", "[I", true)
  | 4 => ("RakeTables$Rounding", "most", "[I", true)
  | 5 => ("RakeTables$Rounding", "lineSum", "LRakeTables$Fraction;", true)
  | 6 => ("RakeTables$Rounding", "total", "LRakeTables$Fraction;", true)
  | 7 => ("RakeTables$Rounding", "rows", "I", false)
  | _ => ("RakeTables$Rounding", "columns", "I", false)
def tyX4 : Nat → FieldType := fun k => match k with
  | 0 => .array .int
  | 1 => .array .int
  | 2 => .array .int
  | 3 => .array .int
  | 4 => .array .int
  | 5 => .object "RakeTables$Fraction"
  | 6 => .object "RakeTables$Fraction"
  | 7 => .int
  | _ => .int
theorem nmX4 : ∀ a, a < 9 → ∀ b, b < 9 → a ≠ b → (TX4 a).2.1 ≠ (TX4 b).2.1 := by decide +kernel
theorem tyX4_ok : ∀ k, k < 9 → parseFieldDescriptor (TX4 k).2.2.1 = some (tyX4 k) := by decide +kernel
abbrev cX4_init : ByteArray := prog_6_method_1_code
def yX4_init : MethodName := ⟨RX4, "<init>", "()V"⟩
abbrev cX4_isFound : ByteArray := prog_6_method_2_code
def yX4_isFound : MethodName := ⟨RX4, "isFound", "(LRakeTables$Setting;LRakeTables$Table;)Z"⟩
abbrev cX4_areSumsBounded : ByteArray := prog_6_method_3_code
def yX4_areSumsBounded : MethodName := ⟨RX4, "areSumsBounded", "(LRakeTables$Setting;LRakeTables$Table;)Z"⟩
abbrev cX4_boundCells : ByteArray := prog_6_method_4_code
def yX4_boundCells : MethodName := ⟨RX4, "boundCells", "(LRakeTables$Table;)V"⟩
abbrev cX4_boundLine : ByteArray := prog_6_method_5_code
def yX4_boundLine : MethodName := ⟨RX4, "boundLine", "(ILRakeTables$Fraction;)V"⟩
abbrev cX4_wholesOf : ByteArray := prog_6_method_6_code
def yX4_wholesOf : MethodName := ⟨RX4, "wholesOf", "(JJ)I"⟩
abbrev cX4_isPutFrom : ByteArray := prog_6_method_7_code
def yX4_isPutFrom : MethodName := ⟨RX4, "isPutFrom", "(LRakeTables$Rounding;II)Z"⟩
abbrev cX4_stands : ByteArray := prog_6_method_8_code
def yX4_stands : MethodName := ⟨RX4, "stands", "(II)Z"⟩
abbrev cX4_doColumnsStand : ByteArray := prog_6_method_9_code
def yX4_doColumnsStand : MethodName := ⟨RX4, "doColumnsStand", "()Z"⟩
abbrev cX4_rowPut : ByteArray := prog_6_method_10_code
def yX4_rowPut : MethodName := ⟨RX4, "rowPut", "(I)I"⟩
abbrev cX4_allPut : ByteArray := prog_6_method_11_code
def yX4_allPut : MethodName := ⟨RX4, "allPut", "()I"⟩
def RX5 : String := "RakeTables$Script"
def TX5 : u_T := fun k => match k with
  | 0 => ("RakeTables$Script", "signs", "[I", true)
  | _ => ("RakeTables$Script", "length", "I", false)
def tyX5 : Nat → FieldType := fun k => match k with
  | 0 => .array .int
  | _ => .int
theorem nmX5 : ∀ a, a < 2 → ∀ b, b < 2 → a ≠ b → (TX5 a).2.1 ≠ (TX5 b).2.1 := by decide +kernel
theorem tyX5_ok : ∀ k, k < 2 → parseFieldDescriptor (TX5 k).2.2.1 = some (tyX5 k) := by decide +kernel
abbrev cX5_init : ByteArray := prog_7_method_1_code
def yX5_init : MethodName := ⟨RX5, "<init>", "()V"⟩
abbrev cX5_append : ByteArray := prog_7_method_2_code
def yX5_append : MethodName := ⟨RX5, "append", "(I)I"⟩
abbrev cX5_sign : ByteArray := prog_7_method_3_code
def yX5_sign : MethodName := ⟨RX5, "sign", "(I)I"⟩
abbrev cX5_digit : ByteArray := prog_7_method_4_code
def yX5_digit : MethodName := ⟨RX5, "digit", "(I)I"⟩
abbrev cX5_number : ByteArray := prog_7_method_5_code
def yX5_number : MethodName := ⟨RX5, "number", "(II)I"⟩
abbrev cX5_fault : ByteArray := prog_7_method_6_code
def yX5_fault : MethodName := ⟨RX5, "fault", "()I"⟩
abbrev cX5_clauseEnd : ByteArray := prog_7_method_7_code
def yX5_clauseEnd : MethodName := ⟨RX5, "clauseEnd", "(I)I"⟩
abbrev cX5_digitsEnd : ByteArray := prog_7_method_8_code
def yX5_digitsEnd : MethodName := ⟨RX5, "digitsEnd", "(III)I"⟩
def RX6 : String := "RakeTables$Setting"
def TX6 : u_T := fun k => match k with
  | 0 => ("RakeTables$Setting", "rows", "I", false)
  | 1 => ("RakeTables$Setting", "columns", "I", false)
  | 2 => ("RakeTables$Setting", "isThree", "Z", false)
  | 3 => ("RakeTables$Setting", "counts", "[I", true)
  | 4 => ("RakeTables$Setting", "marks", "[I", true)
  | _ => ("RakeTables$Setting", "margins", "[I", true)
def tyX6 : Nat → FieldType := fun k => match k with
  | 0 => .int
  | 1 => .int
  | 2 => .boolean
  | 3 => .array .int
  | 4 => .array .int
  | _ => .array .int
theorem nmX6 : ∀ a, a < 6 → ∀ b, b < 6 → a ≠ b → (TX6 a).2.1 ≠ (TX6 b).2.1 := by decide +kernel
theorem tyX6_ok : ∀ k, k < 6 → parseFieldDescriptor (TX6 k).2.2.1 = some (tyX6 k) := by decide +kernel
abbrev cX6_init : ByteArray := prog_8_method_1_code
def yX6_init : MethodName := ⟨RX6, "<init>", "()V"⟩
abbrev cX6_become : ByteArray := prog_8_method_2_code
def yX6_become : MethodName := ⟨RX6, "become", "(II)V"⟩
abbrev cX6_copyFrom : ByteArray := prog_8_method_3_code
def yX6_copyFrom : MethodName := ⟨RX6, "copyFrom", "(LRakeTables$Setting;)V"⟩
abbrev cX6_cells : ByteArray := prog_8_method_4_code
def yX6_cells : MethodName := ⟨RX6, "cells", "()I"⟩
abbrev cX6_hasCell : ByteArray := prog_8_method_5_code
def yX6_hasCell : MethodName := ⟨RX6, "hasCell", "(II)Z"⟩
abbrev cX6_lines : ByteArray := prog_8_method_6_code
def yX6_lines : MethodName := ⟨RX6, "lines", "(I)I"⟩
abbrev cX6_hasLine : ByteArray := prog_8_method_7_code
def yX6_hasLine : MethodName := ⟨RX6, "hasLine", "(II)Z"⟩
abbrev cX6_lineOf : ByteArray := prog_8_method_8_code
def yX6_lineOf : MethodName := ⟨RX6, "lineOf", "(III)I"⟩
abbrev cX6_allCounts : ByteArray := prog_8_method_9_code
def yX6_allCounts : MethodName := ⟨RX6, "allCounts", "()I"⟩
abbrev cX6_allMargins : ByteArray := prog_8_method_10_code
def yX6_allMargins : MethodName := ⟨RX6, "allMargins", "(I)I"⟩
abbrev cX6_isPossible : ByteArray := prog_8_method_11_code
def yX6_isPossible : MethodName := ⟨RX6, "isPossible", "()Z"⟩
abbrev cX6_forbids : ByteArray := prog_8_method_12_code
def yX6_forbids : MethodName := ⟨RX6, "forbids", "()I"⟩
abbrev cX6_marginsOf : ByteArray := prog_8_method_13_code
def yX6_marginsOf : MethodName := ⟨RX6, "marginsOf", "(I)I"⟩
abbrev cX6_marginsReached : ByteArray := prog_8_method_14_code
def yX6_marginsReached : MethodName := ⟨RX6, "marginsReached", "(I)I"⟩
abbrev cX6_isReached : ByteArray := prog_8_method_15_code
def yX6_isReached : MethodName := ⟨RX6, "isReached", "(II)Z"⟩
abbrev cX6_happen : ByteArray := prog_8_method_16_code
def yX6_happen : MethodName := ⟨RX6, "happen", "(II)V"⟩
abbrev cX6_raise : ByteArray := prog_8_method_17_code
def yX6_raise : MethodName := ⟨RX6, "raise", "(II)V"⟩
def RX7 : String := "RakeTables$Table"
def TX7 : u_T := fun k => match k with
  | 0 => ("RakeTables$Table", "above", "[J", true)
  | 1 => ("RakeTables$Table", "below", "[J", true)
  | 2 => ("RakeTables$Table", "rounds", "I", false)
  | 3 => ("RakeTables$Table", "lineSum", "LRakeTables$Fraction;", true)
  | _ => ("RakeTables$Table", "fitted", "LRakeTables$Fraction;", true)
def tyX7 : Nat → FieldType := fun k => match k with
  | 0 => .array .long
  | 1 => .array .long
  | 2 => .int
  | 3 => .object "RakeTables$Fraction"
  | _ => .object "RakeTables$Fraction"
theorem nmX7 : ∀ a, a < 5 → ∀ b, b < 5 → a ≠ b → (TX7 a).2.1 ≠ (TX7 b).2.1 := by decide +kernel
theorem tyX7_ok : ∀ k, k < 5 → parseFieldDescriptor (TX7 k).2.2.1 = some (tyX7 k) := by decide +kernel
abbrev cX7_init : ByteArray := prog_9_method_1_code
def yX7_init : MethodName := ⟨RX7, "<init>", "()V"⟩
abbrev cX7_takeCounts : ByteArray := prog_9_method_2_code
def yX7_takeCounts : MethodName := ⟨RX7, "takeCounts", "(LRakeTables$Setting;)V"⟩
abbrev cX7_copyFrom : ByteArray := prog_9_method_3_code
def yX7_copyFrom : MethodName := ⟨RX7, "copyFrom", "(LRakeTables$Table;)V"⟩
abbrev cX7_compare : ByteArray := prog_9_method_4_code
def yX7_compare : MethodName := ⟨RX7, "compare", "(II)I"⟩
abbrev cX7_countOtherwise : ByteArray := prog_9_method_5_code
def yX7_countOtherwise : MethodName := ⟨RX7, "countOtherwise", "(LRakeTables$Setting;LRakeTables$Table;)I"⟩
abbrev cX7_isSummed : ByteArray := prog_9_method_6_code
def yX7_isSummed : MethodName := ⟨RX7, "isSummed", "(LRakeTables$Setting;IILRakeTables$Fraction;)Z"⟩
abbrev cX7_isFitted : ByteArray := prog_9_method_7_code
def yX7_isFitted : MethodName := ⟨RX7, "isFitted", "(LRakeTables$Setting;I)Z"⟩
abbrev cX7_isLineFitted : ByteArray := prog_9_method_8_code
def yX7_isLineFitted : MethodName := ⟨RX7, "isLineFitted", "(LRakeTables$Setting;II)Z"⟩
def RX8 : String := "RakeTables$Tapes"
def TX8 : u_T := fun k => match k with
  | 0 => ("RakeTables$Tapes", "items", "[[J", true)
  | 1 => ("RakeTables$Tapes", "sorts", "[I", true)
  | _ => ("RakeTables$Tapes", "lengths", "[I", true)
def tyX8 : Nat → FieldType := fun k => match k with
  | 0 => .array (.array .long)
  | 1 => .array .int
  | _ => .array .int
theorem nmX8 : ∀ a, a < 3 → ∀ b, b < 3 → a ≠ b → (TX8 a).2.1 ≠ (TX8 b).2.1 := by decide +kernel
theorem tyX8_ok : ∀ k, k < 3 → parseFieldDescriptor (TX8 k).2.2.1 = some (tyX8 k) := by decide +kernel
abbrev cX8_init : ByteArray := prog_10_method_1_code
def yX8_init : MethodName := ⟨RX8, "<init>", "()V"⟩
abbrev cX8_hasTape : ByteArray := prog_10_method_2_code
def yX8_hasTape : MethodName := ⟨RX8, "hasTape", "(I)Z"⟩
abbrev cX8_holds : ByteArray := prog_10_method_3_code
def yX8_holds : MethodName := ⟨RX8, "holds", "(I)Z"⟩
abbrev cX8_isOfInts : ByteArray := prog_10_method_4_code
def yX8_isOfInts : MethodName := ⟨RX8, "isOfInts", "(I)Z"⟩
abbrev cX8_isAlike : ByteArray := prog_10_method_5_code
def yX8_isAlike : MethodName := ⟨RX8, "isAlike", "(II)Z"⟩
abbrev cX8_lengthOf : ByteArray := prog_10_method_6_code
def yX8_lengthOf : MethodName := ⟨RX8, "lengthOf", "(I)I"⟩
abbrev cX8_hasItem : ByteArray := prog_10_method_7_code
def yX8_hasItem : MethodName := ⟨RX8, "hasItem", "(II)Z"⟩
abbrev cX8_hasItems : ByteArray := prog_10_method_8_code
def yX8_hasItems : MethodName := ⟨RX8, "hasItems", "(III)Z"⟩
abbrev cX8_itemAt : ByteArray := prog_10_method_9_code
def yX8_itemAt : MethodName := ⟨RX8, "itemAt", "(II)J"⟩
abbrev cX8_become : ByteArray := prog_10_method_10_code
def yX8_become : MethodName := ⟨RX8, "become", "(III)I"⟩
abbrev cX8_put : ByteArray := prog_10_method_11_code
def yX8_put : MethodName := ⟨RX8, "put", "(IIJ)I"⟩
abbrev cX8_cut : ByteArray := prog_10_method_12_code
def yX8_cut : MethodName := ⟨RX8, "cut", "(IJ)J"⟩
abbrev cX8_move : ByteArray := prog_10_method_13_code
def yX8_move : MethodName := ⟨RX8, "move", "(IIIII)I"⟩
def RX9 : String := "RakeTables"
def TX9 : u_T := fun k => match k with
  | 0 => ("RakeTables", "now", "LRakeTables$Picture;", true)
  | 1 => ("RakeTables", "taken", "LRakeTables$Picture;", true)
  | 2 => ("RakeTables", "isTaken", "Z", false)
  | 3 => ("RakeTables", "script", "LRakeTables$Script;", true)
  | 4 => ("RakeTables", "tapes", "LRakeTables$Tapes;", true)
  | 5 => ("RakeTables", "rounding", "LRakeTables$Rounding;", true)
  | 6 => ("RakeTables", "trial", "LRakeTables$Setting;", true)
  | 7 => ("RakeTables", "trialTable", "LRakeTables$Table;", true)
  | 8 => ("RakeTables", "behind", "LRakeTables$Table;", true)
  | 9 => ("RakeTables", "answer", "LRakeTables$Fraction;", true)
  | 10 => ("RakeTables", "lineGap", "LRakeTables$Fraction;", true)
  | 11 => ("RakeTables", "widest", "LRakeTables$Fraction;", true)
  | _ => ("RakeTables", "quotient", "LRakeTables$Quotient;", true)
def tyX9 : Nat → FieldType := fun k => match k with
  | 0 => .object "RakeTables$Picture"
  | 1 => .object "RakeTables$Picture"
  | 2 => .boolean
  | 3 => .object "RakeTables$Script"
  | 4 => .object "RakeTables$Tapes"
  | 5 => .object "RakeTables$Rounding"
  | 6 => .object "RakeTables$Setting"
  | 7 => .object "RakeTables$Table"
  | 8 => .object "RakeTables$Table"
  | 9 => .object "RakeTables$Fraction"
  | 10 => .object "RakeTables$Fraction"
  | 11 => .object "RakeTables$Fraction"
  | _ => .object "RakeTables$Quotient"
theorem nmX9 : ∀ a, a < 13 → ∀ b, b < 13 → a ≠ b → (TX9 a).2.1 ≠ (TX9 b).2.1 := by decide +kernel
theorem tyX9_ok : ∀ k, k < 13 → parseFieldDescriptor (TX9 k).2.2.1 = some (tyX9 k) := by decide +kernel
abbrev cX9_init : ByteArray := prog_1_method_1_code
def yX9_init : MethodName := ⟨RX9, "<init>", "()V"⟩
abbrev cX9_size : ByteArray := prog_1_method_2_code
def yX9_size : MethodName := ⟨RX9, "size", "(II)I"⟩
abbrev cX9_tell : ByteArray := prog_1_method_3_code
def yX9_tell : MethodName := ⟨RX9, "tell", "(III)I"⟩
abbrev cX9_mark : ByteArray := prog_1_method_4_code
def yX9_mark : MethodName := ⟨RX9, "mark", "(III)I"⟩
abbrev cX9_margin : ByteArray := prog_1_method_5_code
def yX9_margin : MethodName := ⟨RX9, "margin", "(III)I"⟩
abbrev cX9_three : ByteArray := prog_1_method_6_code
def yX9_three : MethodName := ⟨RX9, "three", "(Z)I"⟩
abbrev cX9_of : ByteArray := prog_1_method_7_code
def yX9_of : MethodName := ⟨RX9, "of", "(III)I"⟩
abbrev cX9_marginOf : ByteArray := prog_1_method_8_code
def yX9_marginOf : MethodName := ⟨RX9, "marginOf", "(II)I"⟩
abbrev cX9_feed : ByteArray := prog_1_method_9_code
def yX9_feed : MethodName := ⟨RX9, "feed", "(I)I"⟩
abbrev cX9_read : ByteArray := prog_1_method_10_code
def yX9_read : MethodName := ⟨RX9, "read", "()I"⟩
abbrev cX9_doClauses : ByteArray := prog_1_method_11_code
def yX9_doClauses : MethodName := ⟨RX9, "doClauses", "()I"⟩
abbrev cX9_isClauseDone : ByteArray := prog_1_method_12_code
def yX9_isClauseDone : MethodName := ⟨RX9, "isClauseDone", "(II)Z"⟩
abbrev cX9_begin : ByteArray := prog_1_method_13_code
def yX9_begin : MethodName := ⟨RX9, "begin", "()I"⟩
abbrev cX9_fit : ByteArray := prog_1_method_14_code
def yX9_fit : MethodName := ⟨RX9, "fit", "(I)I"⟩
abbrev cX9_rounds : ByteArray := prog_1_method_15_code
def yX9_rounds : MethodName := ⟨RX9, "rounds", "(I)I"⟩
abbrev cX9_isRoundDone : ByteArray := prog_1_method_16_code
def yX9_isRoundDone : MethodName := ⟨RX9, "isRoundDone", "(LRakeTables$Setting;LRakeTables$Table;)Z"⟩
abbrev cX9_cell : ByteArray := prog_1_method_17_code
def yX9_cell : MethodName := ⟨RX9, "cell", "(III)J"⟩
abbrev cX9_sum : ByteArray := prog_1_method_18_code
def yX9_sum : MethodName := ⟨RX9, "sum", "(III)J"⟩
abbrev cX9_gap : ByteArray := prog_1_method_19_code
def yX9_gap : MethodName := ⟨RX9, "gap", "(III)J"⟩
abbrev cX9_isGapFound : ByteArray := prog_1_method_20_code
def yX9_isGapFound : MethodName := ⟨RX9, "isGapFound", "(II)Z"⟩
abbrev cX9_farthest : ByteArray := prog_1_method_21_code
def yX9_farthest : MethodName := ⟨RX9, "farthest", "()I"⟩
abbrev cX9_seekWidest : ByteArray := prog_1_method_22_code
def yX9_seekWidest : MethodName := ⟨RX9, "seekWidest", "()I"⟩
abbrev cX9_told : ByteArray := prog_1_method_23_code
def yX9_told : MethodName := ⟨RX9, "told", "(I)I"⟩
abbrev cX9_rounded : ByteArray := prog_1_method_24_code
def yX9_rounded : MethodName := ⟨RX9, "rounded", "(II)I"⟩
abbrev cX9_together : ByteArray := prog_1_method_25_code
def yX9_together : MethodName := ⟨RX9, "together", "(II)I"⟩
abbrev cX9_cross : ByteArray := prog_1_method_26_code
def yX9_cross : MethodName := ⟨RX9, "cross", "(IIIII)J"⟩
abbrev cX9_orders : ByteArray := prog_1_method_27_code
def yX9_orders : MethodName := ⟨RX9, "orders", "()J"⟩
abbrev cX9_rank : ByteArray := prog_1_method_28_code
def yX9_rank : MethodName := ⟨RX9, "rank", "(I)I"⟩
abbrev cX9_countAhead : ByteArray := prog_1_method_29_code
def yX9_countAhead : MethodName := ⟨RX9, "countAhead", "(I)I"⟩
abbrev cX9_see : ByteArray := prog_1_method_30_code
def yX9_see : MethodName := ⟨RX9, "see", "(III)I"⟩
abbrev cX9_noteCell : ByteArray := prog_1_method_31_code
def yX9_noteCell : MethodName := ⟨RX9, "noteCell", "(LRakeTables$Notes;III)I"⟩
abbrev cX9_fitting : ByteArray := prog_1_method_32_code
def yX9_fitting : MethodName := ⟨RX9, "fitting", "(III)I"⟩
abbrev cX9_isRoundedBehind : ByteArray := prog_1_method_33_code
def yX9_isRoundedBehind : MethodName := ⟨RX9, "isRoundedBehind", "(II)Z"⟩
abbrev cX9_firstOtherwise : ByteArray := prog_1_method_34_code
def yX9_firstOtherwise : MethodName := ⟨RX9, "firstOtherwise", "(LRakeTables$Notes;)I"⟩
abbrev cX9_odds : ByteArray := prog_1_method_35_code
def yX9_odds : MethodName := ⟨RX9, "odds", "(III)J"⟩
abbrev cX9_mean : ByteArray := prog_1_method_36_code
def yX9_mean : MethodName := ⟨RX9, "mean", "(I)J"⟩
abbrev cX9_event : ByteArray := prog_1_method_37_code
def yX9_event : MethodName := ⟨RX9, "event", "(II)I"⟩
abbrev cX9_after : ByteArray := prog_1_method_38_code
def yX9_after : MethodName := ⟨RX9, "after", "(I)J"⟩
abbrev cX9_book : ByteArray := prog_1_method_39_code
def yX9_book : MethodName := ⟨RX9, "book", "(III)I"⟩
abbrev cX9_looked : ByteArray := prog_1_method_40_code
def yX9_looked : MethodName := ⟨RX9, "looked", "()I"⟩
abbrev cX9_judge : ByteArray := prog_1_method_41_code
def yX9_judge : MethodName := ⟨RX9, "judge", "(II)I"⟩
abbrev cX9_image : ByteArray := prog_1_method_42_code
def yX9_image : MethodName := ⟨RX9, "image", "()I"⟩
abbrev cX9_undo : ByteArray := prog_1_method_43_code
def yX9_undo : MethodName := ⟨RX9, "undo", "()I"⟩
abbrev cX9_count : ByteArray := prog_1_method_44_code
def yX9_count : MethodName := ⟨RX9, "count", "(I)I"⟩
abbrev cX9_tape : ByteArray := prog_1_method_45_code
def yX9_tape : MethodName := ⟨RX9, "tape", "(III)I"⟩
abbrev cX9_item : ByteArray := prog_1_method_46_code
def yX9_item : MethodName := ⟨RX9, "item", "(IIJ)I"⟩
abbrev cX9_peek : ByteArray := prog_1_method_47_code
def yX9_peek : MethodName := ⟨RX9, "peek", "(II)J"⟩
abbrev cX9_shift : ByteArray := prog_1_method_48_code
def yX9_shift : MethodName := ⟨RX9, "shift", "(IIIII)I"⟩
abbrev cX9_place : ByteArray := prog_1_method_49_code
def yX9_place : MethodName := ⟨RX9, "place", "(II)I"⟩
abbrev cX9_oneIf : ByteArray := prog_1_method_50_code
def yX9_oneIf : MethodName := ⟨RX9, "oneIf", "(Z)I"⟩
def RX10 : String := "RakeTablesModel"
def TX10 : u_T := fun k => match k with
  | 0 => ("RakeTablesModel", "now", "[I", true)
  | 1 => ("RakeTablesModel", "image", "[I", true)
  | 2 => ("RakeTablesModel", "aside", "[I", true)
  | 3 => ("RakeTablesModel", "hasImage", "Z", false)
  | 4 => ("RakeTablesModel", "text", "[I", true)
  | 5 => ("RakeTablesModel", "length", "I", false)
  | 6 => ("RakeTablesModel", "clause", "[I", true)
  | 7 => ("RakeTablesModel", "above", "J", false)
  | 8 => ("RakeTablesModel", "below", "J", false)
  | 9 => ("RakeTablesModel", "thenAbove", "[I", true)
  | 10 => ("RakeTablesModel", "thenBelow", "[I", true)
  | 11 => ("RakeTablesModel", "ahead", "[I", true)
  | 12 => ("RakeTablesModel", "gapAbove", "J", false)
  | 13 => ("RakeTablesModel", "gapBelow", "J", false)
  | 14 => ("RakeTablesModel", "leastOf", "[I", true)
  | 15 => ("RakeTablesModel", "mostOf", "[I", true)
  | 16 => ("RakeTablesModel", "leastInAll", "I", false)
  | 17 => ("RakeTablesModel", "mostInAll", "I", false)
  | 18 => ("RakeTablesModel", "whole", "[I", true)
  | 19 => ("RakeTablesModel", "over", "[J", true)
  | 20 => ("RakeTablesModel", "under", "[J", true)
  | 21 => ("RakeTablesModel", "sorts", "[I", true)
  | 22 => ("RakeTablesModel", "sizes", "[I", true)
  | 23 => ("RakeTablesModel", "items", "[J", true)
  | _ => ("RakeTablesModel", "carried", "[J", true)
def tyX10 : Nat → FieldType := fun k => match k with
  | 0 => .array .int
  | 1 => .array .int
  | 2 => .array .int
  | 3 => .boolean
  | 4 => .array .int
  | 5 => .int
  | 6 => .array .int
  | 7 => .long
  | 8 => .long
  | 9 => .array .int
  | 10 => .array .int
  | 11 => .array .int
  | 12 => .long
  | 13 => .long
  | 14 => .array .int
  | 15 => .array .int
  | 16 => .int
  | 17 => .int
  | 18 => .array .int
  | 19 => .array .long
  | 20 => .array .long
  | 21 => .array .int
  | 22 => .array .int
  | 23 => .array .long
  | _ => .array .long
theorem nmX10 : ∀ a, a < 25 → ∀ b, b < 25 → a ≠ b → (TX10 a).2.1 ≠ (TX10 b).2.1 := by decide +kernel
theorem tyX10_ok : ∀ k, k < 25 → parseFieldDescriptor (TX10 k).2.2.1 = some (tyX10 k) := by decide +kernel
abbrev cX10_init : ByteArray := prog_12_method_1_code
def yX10_init : MethodName := ⟨RX10, "<init>", "()V"⟩
abbrev cX10_within : ByteArray := prog_12_method_2_code
def yX10_within : MethodName := ⟨RX10, "within", "(JJJ)Z"⟩
abbrev cX10_isPart : ByteArray := prog_12_method_3_code
def yX10_isPart : MethodName := ⟨RX10, "isPart", "(I)Z"⟩
abbrev cX10_isCell : ByteArray := prog_12_method_4_code
def yX10_isCell : MethodName := ⟨RX10, "isCell", "(II)Z"⟩
abbrev cX10_isHere : ByteArray := prog_12_method_5_code
def yX10_isHere : MethodName := ⟨RX10, "isHere", "(I)Z"⟩
abbrev cX10_linesOf : ByteArray := prog_12_method_6_code
def yX10_linesOf : MethodName := ⟨RX10, "linesOf", "(I)I"⟩
abbrev cX10_isLine : ByteArray := prog_12_method_7_code
def yX10_isLine : MethodName := ⟨RX10, "isLine", "(II)Z"⟩
abbrev cX10_isIn : ByteArray := prog_12_method_8_code
def yX10_isIn : MethodName := ⟨RX10, "isIn", "(III)Z"⟩
abbrev cX10_size : ByteArray := prog_12_method_9_code
def yX10_size : MethodName := ⟨RX10, "size", "(II)I"⟩
abbrev cX10_begin : ByteArray := prog_12_method_10_code
def yX10_begin : MethodName := ⟨RX10, "begin", "()I"⟩
abbrev cX10_tell : ByteArray := prog_12_method_11_code
def yX10_tell : MethodName := ⟨RX10, "tell", "(III)I"⟩
abbrev cX10_mark : ByteArray := prog_12_method_12_code
def yX10_mark : MethodName := ⟨RX10, "mark", "(III)I"⟩
abbrev cX10_becomes : ByteArray := prog_12_method_13_code
def yX10_becomes : MethodName := ⟨RX10, "becomes", "(II)I"⟩
abbrev cX10_margin : ByteArray := prog_12_method_14_code
def yX10_margin : MethodName := ⟨RX10, "margin", "(III)I"⟩
abbrev cX10_three : ByteArray := prog_12_method_15_code
def yX10_three : MethodName := ⟨RX10, "three", "(Z)I"⟩
abbrev cX10_of : ByteArray := prog_12_method_16_code
def yX10_of : MethodName := ⟨RX10, "of", "(III)I"⟩
abbrev cX10_marginAt : ByteArray := prog_12_method_17_code
def yX10_marginAt : MethodName := ⟨RX10, "marginAt", "(II)I"⟩
abbrev cX10_marginOf : ByteArray := prog_12_method_18_code
def yX10_marginOf : MethodName := ⟨RX10, "marginOf", "(II)I"⟩
abbrev cX10_feed : ByteArray := prog_12_method_19_code
def yX10_feed : MethodName := ⟨RX10, "feed", "(I)I"⟩
abbrev cX10_isDigit : ByteArray := prog_12_method_20_code
def yX10_isDigit : MethodName := ⟨RX10, "isDigit", "(I)Z"⟩
abbrev cX10_isKind : ByteArray := prog_12_method_21_code
def yX10_isKind : MethodName := ⟨RX10, "isKind", "(I)Z"⟩
abbrev cX10_digitsOf : ByteArray := prog_12_method_22_code
def yX10_digitsOf : MethodName := ⟨RX10, "digitsOf", "(I)I"⟩
abbrev cX10_readsClause : ByteArray := prog_12_method_23_code
def yX10_readsClause : MethodName := ⟨RX10, "readsClause", "(II)I"⟩
abbrev cX10_readsAll : ByteArray := prog_12_method_24_code
def yX10_readsAll : MethodName := ⟨RX10, "readsAll", "()I"⟩
abbrev cX10_does : ByteArray := prog_12_method_25_code
def yX10_does : MethodName := ⟨RX10, "does", "(I)Z"⟩
abbrev cX10_read : ByteArray := prog_12_method_26_code
def yX10_read : MethodName := ⟨RX10, "read", "()I"⟩
abbrev cX10_divisor : ByteArray := prog_12_method_27_code
def yX10_divisor : MethodName := ⟨RX10, "divisor", "(JJ)J"⟩
abbrev cX10_worksOut : ByteArray := prog_12_method_28_code
def yX10_worksOut : MethodName := ⟨RX10, "worksOut", "(JJ)Z"⟩
abbrev cX10_adds : ByteArray := prog_12_method_29_code
def yX10_adds : MethodName := ⟨RX10, "adds", "(JJ)Z"⟩
abbrev cX10_sums : ByteArray := prog_12_method_30_code
def yX10_sums : MethodName := ⟨RX10, "sums", "(II)Z"⟩
abbrev cX10_fits : ByteArray := prog_12_method_32_code
def yX10_fits : MethodName := ⟨RX10, "fits", "(I)I"⟩
abbrev cX10_fitsLine : ByteArray := prog_12_method_33_code
def yX10_fitsLine : MethodName := ⟨RX10, "fitsLine", "(IIJJ)Z"⟩
abbrev cX10_fit : ByteArray := prog_12_method_34_code
def yX10_fit : MethodName := ⟨RX10, "fit", "(I)I"⟩
abbrev cX10_goesRound : ByteArray := prog_12_method_35_code
def yX10_goesRound : MethodName := ⟨RX10, "goesRound", "()Z"⟩
abbrev cX10_rounds : ByteArray := prog_12_method_36_code
def yX10_rounds : MethodName := ⟨RX10, "rounds", "(I)I"⟩
abbrev cX10_cell : ByteArray := prog_12_method_37_code
def yX10_cell : MethodName := ⟨RX10, "cell", "(III)J"⟩
abbrev cX10_sum : ByteArray := prog_12_method_38_code
def yX10_sum : MethodName := ⟨RX10, "sum", "(III)J"⟩
abbrev cX10_gaps : ByteArray := prog_12_method_39_code
def yX10_gaps : MethodName := ⟨RX10, "gaps", "(I)V"⟩
abbrev cX10_gap : ByteArray := prog_12_method_40_code
def yX10_gap : MethodName := ⟨RX10, "gap", "(III)J"⟩
abbrev cX10_farthest : ByteArray := prog_12_method_41_code
def yX10_farthest : MethodName := ⟨RX10, "farthest", "()I"⟩
abbrev cX10_rowsTogether : ByteArray := prog_12_method_42_code
def yX10_rowsTogether : MethodName := ⟨RX10, "rowsTogether", "(I)I"⟩
abbrev cX10_reached : ByteArray := prog_12_method_43_code
def yX10_reached : MethodName := ⟨RX10, "reached", "(I)I"⟩
abbrev cX10_sizeOf : ByteArray := prog_12_method_44_code
def yX10_sizeOf : MethodName := ⟨RX10, "sizeOf", "(I)I"⟩
abbrev cX10_forbids : ByteArray := prog_12_method_45_code
def yX10_forbids : MethodName := ⟨RX10, "forbids", "()I"⟩
abbrev cX10_surplus : ByteArray := prog_12_method_46_code
def yX10_surplus : MethodName := ⟨RX10, "surplus", "()I"⟩
abbrev cX10_possible : ByteArray := prog_12_method_47_code
def yX10_possible : MethodName := ⟨RX10, "possible", "()I"⟩
abbrev cX10_allCounts : ByteArray := prog_12_method_48_code
def yX10_allCounts : MethodName := ⟨RX10, "allCounts", "()I"⟩
abbrev cX10_settled : ByteArray := prog_12_method_49_code
def yX10_settled : MethodName := ⟨RX10, "settled", "()I"⟩
abbrev cX10_told : ByteArray := prog_12_method_50_code
def yX10_told : MethodName := ⟨RX10, "told", "(I)I"⟩
abbrev cX10_down : ByteArray := prog_12_method_51_code
def yX10_down : MethodName := ⟨RX10, "down", "()I"⟩
abbrev cX10_up : ByteArray := prog_12_method_52_code
def yX10_up : MethodName := ⟨RX10, "up", "()I"⟩
abbrev cX10_hasLimits : ByteArray := prog_12_method_53_code
def yX10_hasLimits : MethodName := ⟨RX10, "hasLimits", "()Z"⟩
abbrev cX10_fitsWhole : ByteArray := prog_12_method_54_code
def yX10_fitsWhole : MethodName := ⟨RX10, "fitsWhole", "()Z"⟩
abbrev cX10_togetherOf : ByteArray := prog_12_method_55_code
def yX10_togetherOf : MethodName := ⟨RX10, "togetherOf", "(II)I"⟩
abbrev cX10_goesOn : ByteArray := prog_12_method_56_code
def yX10_goesOn : MethodName := ⟨RX10, "goesOn", "(I)Z"⟩
abbrev cX10_isRounded : ByteArray := prog_12_method_57_code
def yX10_isRounded : MethodName := ⟨RX10, "isRounded", "()Z"⟩
abbrev cX10_rounded : ByteArray := prog_12_method_58_code
def yX10_rounded : MethodName := ⟨RX10, "rounded", "(II)I"⟩
abbrev cX10_together : ByteArray := prog_12_method_59_code
def yX10_together : MethodName := ⟨RX10, "together", "(II)I"⟩
abbrev cX10_product : ByteArray := prog_12_method_60_code
def yX10_product : MethodName := ⟨RX10, "product", "([J)J"⟩
abbrev cX10_ratio : ByteArray := prog_12_method_61_code
def yX10_ratio : MethodName := ⟨RX10, "ratio", "(IIZ)V"⟩
abbrev cX10_cross : ByteArray := prog_12_method_62_code
def yX10_cross : MethodName := ⟨RX10, "cross", "(IIIII)J"⟩
abbrev cX10_orders : ByteArray := prog_12_method_63_code
def yX10_orders : MethodName := ⟨RX10, "orders", "()J"⟩
abbrev cX10_isAhead : ByteArray := prog_12_method_64_code
def yX10_isAhead : MethodName := ⟨RX10, "isAhead", "(II)Z"⟩
abbrev cX10_rank : ByteArray := prog_12_method_65_code
def yX10_rank : MethodName := ⟨RX10, "rank", "(I)I"⟩
abbrev cX10_lists : ByteArray := prog_12_method_66_code
def yX10_lists : MethodName := ⟨RX10, "lists", "(IIIIII)I"⟩
abbrev cX10_firstOtherwise : ByteArray := prog_12_method_67_code
def yX10_firstOtherwise : MethodName := ⟨RX10, "firstOtherwise", "(II)I"⟩
abbrev cX10_see : ByteArray := prog_12_method_68_code
def yX10_see : MethodName := ⟨RX10, "see", "(III)I"⟩
abbrev cX10_isRoundedBy : ByteArray := prog_12_method_69_code
def yX10_isRoundedBy : MethodName := ⟨RX10, "isRoundedBy", "(II)Z"⟩
abbrev cX10_keeps : ByteArray := prog_12_method_70_code
def yX10_keeps : MethodName := ⟨RX10, "keeps", "()V"⟩
abbrev cX10_laysBack : ByteArray := prog_12_method_71_code
def yX10_laysBack : MethodName := ⟨RX10, "laysBack", "()V"⟩
abbrev cX10_fitting : ByteArray := prog_12_method_72_code
def yX10_fitting : MethodName := ⟨RX10, "fitting", "(III)I"⟩
abbrev cX10_odds : ByteArray := prog_12_method_73_code
def yX10_odds : MethodName := ⟨RX10, "odds", "(III)J"⟩
abbrev cX10_mean : ByteArray := prog_12_method_74_code
def yX10_mean : MethodName := ⟨RX10, "mean", "(I)J"⟩
abbrev cX10_isOf : ByteArray := prog_12_method_75_code
def yX10_isOf : MethodName := ⟨RX10, "isOf", "(II)Z"⟩
abbrev cX10_event : ByteArray := prog_12_method_76_code
def yX10_event : MethodName := ⟨RX10, "event", "(II)I"⟩
abbrev cX10_happens : ByteArray := prog_12_method_77_code
def yX10_happens : MethodName := ⟨RX10, "happens", "(II)V"⟩
abbrev cX10_after : ByteArray := prog_12_method_78_code
def yX10_after : MethodName := ⟨RX10, "after", "(I)J"⟩
abbrev cX10_book : ByteArray := prog_12_method_79_code
def yX10_book : MethodName := ⟨RX10, "book", "(III)I"⟩
abbrev cX10_looked : ByteArray := prog_12_method_80_code
def yX10_looked : MethodName := ⟨RX10, "looked", "()I"⟩
abbrev cX10_cells : ByteArray := prog_12_method_81_code
def yX10_cells : MethodName := ⟨RX10, "cells", "()I"⟩
abbrev cX10_image : ByteArray := prog_12_method_82_code
def yX10_image : MethodName := ⟨RX10, "image", "()I"⟩
abbrev cX10_undo : ByteArray := prog_12_method_83_code
def yX10_undo : MethodName := ⟨RX10, "undo", "()I"⟩
abbrev cX10_count : ByteArray := prog_12_method_84_code
def yX10_count : MethodName := ⟨RX10, "count", "(I)I"⟩
abbrev cX10_isTape : ByteArray := prog_12_method_85_code
def yX10_isTape : MethodName := ⟨RX10, "isTape", "(I)Z"⟩
abbrev cX10_tape : ByteArray := prog_12_method_86_code
def yX10_tape : MethodName := ⟨RX10, "tape", "(III)I"⟩
abbrev cX10_asItem : ByteArray := prog_12_method_87_code
def yX10_asItem : MethodName := ⟨RX10, "asItem", "(IJ)J"⟩
abbrev cX10_hasItem : ByteArray := prog_12_method_88_code
def yX10_hasItem : MethodName := ⟨RX10, "hasItem", "(II)Z"⟩
abbrev cX10_item : ByteArray := prog_12_method_89_code
def yX10_item : MethodName := ⟨RX10, "item", "(IIJ)I"⟩
abbrev cX10_peek : ByteArray := prog_12_method_90_code
def yX10_peek : MethodName := ⟨RX10, "peek", "(II)J"⟩
abbrev cX10_shift : ByteArray := prog_12_method_91_code
def yX10_shift : MethodName := ⟨RX10, "shift", "(IIIII)I"⟩
abbrev cX10_judge : ByteArray := prog_12_method_92_code
def yX10_judge : MethodName := ⟨RX10, "judge", "(II)I"⟩
def RJ6 : String := "java/lang/Integer"
abbrev cJ6_bitCount_0f7a4 : ByteArray := prog_13_method_49_code
def yJ6_bitCount_0f7a4 : MethodName := ⟨RJ6, "bitCount", "(I)I"⟩
def RJ13 : String := "java/lang/Long"
abbrev cJ13_compare_74951 : ByteArray := prog_14_method_42_code
def yJ13_compare_74951 : MethodName := ⟨RJ13, "compare", "(JJ)I"⟩
def RJ9 : String := "java/lang/Math"
abbrev cJ9_abs_067f4 : ByteArray := prog_15_method_61_code
def yJ9_abs_067f4 : MethodName := ⟨RJ9, "abs", "(J)J"⟩
abbrev cJ9_max_7cf53 : ByteArray := prog_15_method_65_code
def yJ9_max_7cf53 : MethodName := ⟨RJ9, "max", "(II)I"⟩
abbrev cJ9_min_7cf53 : ByteArray := prog_15_method_69_code
def yJ9_min_7cf53 : MethodName := ⟨RJ9, "min", "(II)I"⟩
def RJ10 : String := "java/lang/System"
def RL : String := "RakeTablesLaw"
abbrev cL_law : ByteArray := code
def yL_law : MethodName := ⟨RL, "law", "([I)Z"⟩
abbrev vwCl : List vw_C := [(RX0, TX0, 2), (RX1, TX1, 4), (RX2, TX2, 5), (RX3, TX3, 4), (RX4, TX4, 9), (RX5, TX5, 2), (RX6, TX6, 6), (RX7, TX7, 5), (RX8, TX8, 3), (RX9, TX9, 13), (RX10, TX10, 25)]
