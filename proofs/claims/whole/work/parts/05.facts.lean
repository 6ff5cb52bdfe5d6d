/-! ===== the words of the tables, by their places ===== -/
def zTb : List Cond := lw_tbl.filter goodWord
theorem zTb_of {w : Cond} (h : w ∈ lw_tbl) (g : goodWord w = true) : w ∈ zTb := List.mem_filter.mpr ⟨h, g⟩
theorem zTb_in {w : Cond} (h : w ∈ zTb) : w ∈ lw_tbl ∧ goodWord w = true := List.mem_filter.mp h
theorem zTl {w : Cond} (h : w ∈ tables_1) : w ∈ lw_tbl := List.mem_append_right _ h
theorem zT1 {w : Cond} (i : Nat) (e : tables_1_1[i]? = some w) (g : goodWord w = true) : w ∈ zTb := zTb_of (zTl (by have h := List.mem_of_getElem? e; exact List.mem_append_left _ h)) g
theorem zT2 {w : Cond} (i : Nat) (e : tables_1_2[i]? = some w) (g : goodWord w = true) : w ∈ zTb := zTb_of (zTl (by have h := List.mem_of_getElem? e; exact List.mem_append_right _ (List.mem_append_left _ h))) g
theorem zT3 {w : Cond} (i : Nat) (e : tables_1_3[i]? = some w) (g : goodWord w = true) : w ∈ zTb := zTb_of (zTl (by have h := List.mem_of_getElem? e; exact List.mem_append_right _ (List.mem_append_right _ (List.mem_append_left _ h)))) g
theorem zT4 {w : Cond} (i : Nat) (e : tables_1_4[i]? = some w) (g : goodWord w = true) : w ∈ zTb := zTb_of (zTl (by have h := List.mem_of_getElem? e; exact List.mem_append_right _ (List.mem_append_right _ (List.mem_append_right _ (List.mem_append_left _ h))))) g
theorem zT5 {w : Cond} (i : Nat) (e : tables_1_5[i]? = some w) (g : goodWord w = true) : w ∈ zTb := zTb_of (zTl (by have h := List.mem_of_getElem? e; exact List.mem_append_right _ (List.mem_append_right _ (List.mem_append_right _ (List.mem_append_right _ (List.mem_append_left _ h)))))) g
theorem zT6 {w : Cond} (i : Nat) (e : tables_1_6[i]? = some w) (g : goodWord w = true) : w ∈ zTb := zTb_of (zTl (by have h := List.mem_of_getElem? e; exact List.mem_append_right _ (List.mem_append_right _ (List.mem_append_right _ (List.mem_append_right _ (List.mem_append_right _ h)))))) g
abbrev zM : Type := MethodName × ByteArray × Nat × Option FieldType
theorem i_RL : Cond.initialized RL ∈ zTb := zT1 0 (by decide +kernel) rfl
theorem i_RX9 : Cond.initialized RX9 ∈ zTb := zT1 1 (by decide +kernel) rfl
theorem i_RX2 : Cond.initialized RX2 ∈ zTb := zT1 2 (by decide +kernel) rfl
theorem i_RX6 : Cond.initialized RX6 ∈ zTb := zT1 3 (by decide +kernel) rfl
theorem i_RX7 : Cond.initialized RX7 ∈ zTb := zT1 4 (by decide +kernel) rfl
theorem i_RX0 : Cond.initialized RX0 ∈ zTb := zT1 5 (by decide +kernel) rfl
theorem i_RX1 : Cond.initialized RX1 ∈ zTb := zT1 6 (by decide +kernel) rfl
theorem i_RJ9 : Cond.initialized RJ9 ∈ zTb := zT1 7 (by decide +kernel) rfl
theorem i_RX5 : Cond.initialized RX5 ∈ zTb := zT1 8 (by decide +kernel) rfl
theorem i_RX8 : Cond.initialized RX8 ∈ zTb := zT1 9 (by decide +kernel) rfl
theorem i_RX4 : Cond.initialized RX4 ∈ zTb := zT1 10 (by decide +kernel) rfl
theorem i_RX3 : Cond.initialized RX3 ∈ zTb := zT1 11 (by decide +kernel) rfl
theorem i_RX10 : Cond.initialized RX10 ∈ zTb := zT1 12 (by decide +kernel) rfl
theorem i_RJ10 : Cond.initialized RJ10 ∈ zTb := zT1 13 (by decide +kernel) rfl
theorem i_RJ6 : Cond.initialized RJ6 ∈ zTb := zT1 14 (by decide +kernel) rfl
theorem i_RJ13 : Cond.initialized RJ13 ∈ zTb := zT1 15 (by decide +kernel) rfl
theorem zTs {q : MethodName × Nat} (i : Nat) (e : lw_privs[i]? = some q) : Cond.selects q.1.cls q.1 q.1 ∈ zTb := zTb_of (List.mem_append_left _ (List.mem_map.mpr ⟨q, List.mem_of_getElem? e, rfl⟩)) rfl
abbrev MX9_init : zM := (yX9_init, cX9_init, 1, (none : Option FieldType))
theorem k_MX9_init : Cond.code yX9_init cX9_init 1 (none : Option FieldType) ∈ zTb := zT1 20 rfl rfl
theorem n_MX9_init : Cond.instanceMethod yX9_init ∈ zTb := zT1 19 (by decide +kernel) rfl
abbrev MX2_init : zM := (yX2_init, cX2_init, 1, (none : Option FieldType))
theorem k_MX2_init : Cond.code yX2_init cX2_init 1 (none : Option FieldType) ∈ zTb := zT1 28 rfl rfl
theorem n_MX2_init : Cond.instanceMethod yX2_init ∈ zTb := zT1 27 (by decide +kernel) rfl
abbrev MX6_init : zM := (yX6_init, cX6_init, 1, (none : Option FieldType))
theorem k_MX6_init : Cond.code yX6_init cX6_init 1 (none : Option FieldType) ∈ zTb := zT1 34 rfl rfl
theorem n_MX6_init : Cond.instanceMethod yX6_init ∈ zTb := zT1 33 (by decide +kernel) rfl
abbrev MX6_become : zM := (yX6_become, cX6_become, 4, (none : Option FieldType))
theorem k_MX6_become : Cond.code yX6_become cX6_become 4 (none : Option FieldType) ∈ zTb := zT1 39 rfl rfl
theorem n_MX6_become : Cond.instanceMethod yX6_become ∈ zTb := zT1 37 (by decide +kernel) rfl
theorem e_MX6_become : Cond.selects RX6 yX6_become yX6_become ∈ zTb := zT1 38 (by decide +kernel) rfl
abbrev MX7_init : zM := (yX7_init, cX7_init, 2, (none : Option FieldType))
theorem k_MX7_init : Cond.code yX7_init cX7_init 2 (none : Option FieldType) ∈ zTb := zT1 76 rfl rfl
theorem n_MX7_init : Cond.instanceMethod yX7_init ∈ zTb := zT1 75 (by decide +kernel) rfl
abbrev MX0_init : zM := (yX0_init, cX0_init, 1, (none : Option FieldType))
theorem k_MX0_init : Cond.code yX0_init cX0_init 1 (none : Option FieldType) ∈ zTb := zT1 82 rfl rfl
theorem n_MX0_init : Cond.instanceMethod yX0_init ∈ zTb := zT1 81 (by decide +kernel) rfl
abbrev MX1_init : zM := (yX1_init, cX1_init, 2, (none : Option FieldType))
theorem k_MX1_init : Cond.code yX1_init cX1_init 2 (none : Option FieldType) ∈ zTb := zT1 125 rfl rfl
theorem n_MX1_init : Cond.instanceMethod yX1_init ∈ zTb := zT1 124 (by decide +kernel) rfl
abbrev MJ9_max_7cf53 : zM := (yJ9_max_7cf53, cJ9_max_7cf53, 2, (Option.some FieldType.int))
theorem k_MJ9_max_7cf53 : Cond.code yJ9_max_7cf53 cJ9_max_7cf53 2 (Option.some FieldType.int) ∈ zTb := zT1 129 rfl rfl
theorem s_MJ9_max_7cf53 : Cond.static yJ9_max_7cf53 ∈ zTb := zT1 128 (by decide +kernel) rfl
abbrev MX5_init : zM := (yX5_init, cX5_init, 1, (none : Option FieldType))
theorem k_MX5_init : Cond.code yX5_init cX5_init 1 (none : Option FieldType) ∈ zTb := zT1 171 rfl rfl
theorem n_MX5_init : Cond.instanceMethod yX5_init ∈ zTb := zT1 170 (by decide +kernel) rfl
abbrev MX8_init : zM := (yX8_init, cX8_init, 2, (none : Option FieldType))
theorem k_MX8_init : Cond.code yX8_init cX8_init 2 (none : Option FieldType) ∈ zTb := zT1 185 rfl rfl
theorem n_MX8_init : Cond.instanceMethod yX8_init ∈ zTb := zT1 184 (by decide +kernel) rfl
abbrev MX4_init : zM := (yX4_init, cX4_init, 1, (none : Option FieldType))
theorem k_MX4_init : Cond.code yX4_init cX4_init 1 (none : Option FieldType) ∈ zTb := zT1 203 rfl rfl
theorem n_MX4_init : Cond.instanceMethod yX4_init ∈ zTb := zT1 202 (by decide +kernel) rfl
abbrev MX3_init : zM := (yX3_init, cX3_init, 1, (none : Option FieldType))
theorem k_MX3_init : Cond.code yX3_init cX3_init 1 (none : Option FieldType) ∈ zTb := zT2 6 rfl rfl
theorem n_MX3_init : Cond.instanceMethod yX3_init ∈ zTb := zT2 5 (by decide +kernel) rfl
abbrev MX9_size : zM := (yX9_size, cX9_size, 3, (Option.some FieldType.int))
theorem k_MX9_size : Cond.code yX9_size cX9_size 3 (Option.some FieldType.int) ∈ zTb := zT2 64 rfl rfl
theorem n_MX9_size : Cond.instanceMethod yX9_size ∈ zTb := zT2 62 (by decide +kernel) rfl
theorem e_MX9_size : Cond.selects RX9 yX9_size yX9_size ∈ zTb := zT2 63 (by decide +kernel) rfl
abbrev MX2_become : zM := (yX2_become, cX2_become, 3, (none : Option FieldType))
theorem k_MX2_become : Cond.code yX2_become cX2_become 3 (none : Option FieldType) ∈ zTb := zT2 68 rfl rfl
theorem n_MX2_become : Cond.instanceMethod yX2_become ∈ zTb := zT2 66 (by decide +kernel) rfl
theorem e_MX2_become : Cond.selects RX2 yX2_become yX2_become ∈ zTb := zT2 67 (by decide +kernel) rfl
abbrev MX7_takeCounts : zM := (yX7_takeCounts, cX7_takeCounts, 3, (none : Option FieldType))
theorem k_MX7_takeCounts : Cond.code yX7_takeCounts cX7_takeCounts 3 (none : Option FieldType) ∈ zTb := zT2 73 rfl rfl
theorem n_MX7_takeCounts : Cond.instanceMethod yX7_takeCounts ∈ zTb := zT2 71 (by decide +kernel) rfl
theorem e_MX7_takeCounts : Cond.selects RX7 yX7_takeCounts yX7_takeCounts ∈ zTb := zT2 72 (by decide +kernel) rfl
abbrev MX1_empty : zM := (yX1_empty, cX1_empty, 1, (Option.some FieldType.int))
theorem k_MX1_empty : Cond.code yX1_empty cX1_empty 1 (Option.some FieldType.int) ∈ zTb := zT2 77 rfl rfl
theorem n_MX1_empty : Cond.instanceMethod yX1_empty ∈ zTb := zT2 75 (by decide +kernel) rfl
theorem e_MX1_empty : Cond.selects RX1 yX1_empty yX1_empty ∈ zTb := zT2 76 (by decide +kernel) rfl
abbrev MX6_cells : zM := (yX6_cells, cX6_cells, 1, (Option.some FieldType.int))
theorem k_MX6_cells : Cond.code yX6_cells cX6_cells 1 (Option.some FieldType.int) ∈ zTb := zT2 81 rfl rfl
theorem n_MX6_cells : Cond.instanceMethod yX6_cells ∈ zTb := zT2 79 (by decide +kernel) rfl
theorem e_MX6_cells : Cond.selects RX6 yX6_cells yX6_cells ∈ zTb := zT2 80 (by decide +kernel) rfl
abbrev MX9_tell : zM := (yX9_tell, cX9_tell, 6, (Option.some FieldType.int))
theorem k_MX9_tell : Cond.code yX9_tell cX9_tell 6 (Option.some FieldType.int) ∈ zTb := zT2 85 rfl rfl
theorem n_MX9_tell : Cond.instanceMethod yX9_tell ∈ zTb := zT2 83 (by decide +kernel) rfl
theorem e_MX9_tell : Cond.selects RX9 yX9_tell yX9_tell ∈ zTb := zT2 84 (by decide +kernel) rfl
abbrev MX6_hasCell : zM := (yX6_hasCell, cX6_hasCell, 3, (Option.some FieldType.boolean))
theorem k_MX6_hasCell : Cond.code yX6_hasCell cX6_hasCell 3 (Option.some FieldType.boolean) ∈ zTb := zT2 89 rfl rfl
theorem n_MX6_hasCell : Cond.instanceMethod yX6_hasCell ∈ zTb := zT2 87 (by decide +kernel) rfl
theorem e_MX6_hasCell : Cond.selects RX6 yX6_hasCell yX6_hasCell ∈ zTb := zT2 88 (by decide +kernel) rfl
abbrev MX9_place : zM := (yX9_place, cX9_place, 2, (Option.some FieldType.int))
theorem k_MX9_place : Cond.code yX9_place cX9_place 2 (Option.some FieldType.int) ∈ zTb := zT2 92 rfl rfl
theorem s_MX9_place : Cond.static yX9_place ∈ zTb := zT2 91 (by decide +kernel) rfl
abbrev MX9_mark : zM := (yX9_mark, cX9_mark, 5, (Option.some FieldType.int))
theorem k_MX9_mark : Cond.code yX9_mark cX9_mark 5 (Option.some FieldType.int) ∈ zTb := zT2 97 rfl rfl
theorem n_MX9_mark : Cond.instanceMethod yX9_mark ∈ zTb := zT2 95 (by decide +kernel) rfl
theorem e_MX9_mark : Cond.selects RX9 yX9_mark yX9_mark ∈ zTb := zT2 96 (by decide +kernel) rfl
abbrev MX9_margin : zM := (yX9_margin, cX9_margin, 5, (Option.some FieldType.int))
theorem k_MX9_margin : Cond.code yX9_margin cX9_margin 5 (Option.some FieldType.int) ∈ zTb := zT2 101 rfl rfl
theorem n_MX9_margin : Cond.instanceMethod yX9_margin ∈ zTb := zT2 99 (by decide +kernel) rfl
theorem e_MX9_margin : Cond.selects RX9 yX9_margin yX9_margin ∈ zTb := zT2 100 (by decide +kernel) rfl
abbrev MX6_hasLine : zM := (yX6_hasLine, cX6_hasLine, 3, (Option.some FieldType.boolean))
theorem k_MX6_hasLine : Cond.code yX6_hasLine cX6_hasLine 3 (Option.some FieldType.boolean) ∈ zTb := zT2 105 rfl rfl
theorem n_MX6_hasLine : Cond.instanceMethod yX6_hasLine ∈ zTb := zT2 103 (by decide +kernel) rfl
theorem e_MX6_hasLine : Cond.selects RX6 yX6_hasLine yX6_hasLine ∈ zTb := zT2 104 (by decide +kernel) rfl
abbrev MX6_lines : zM := (yX6_lines, cX6_lines, 2, (Option.some FieldType.int))
theorem k_MX6_lines : Cond.code yX6_lines cX6_lines 2 (Option.some FieldType.int) ∈ zTb := zT2 109 rfl rfl
theorem n_MX6_lines : Cond.instanceMethod yX6_lines ∈ zTb := zT2 107 (by decide +kernel) rfl
theorem e_MX6_lines : Cond.selects RX6 yX6_lines yX6_lines ∈ zTb := zT2 108 (by decide +kernel) rfl
abbrev MX9_three : zM := (yX9_three, cX9_three, 3, (Option.some FieldType.int))
theorem k_MX9_three : Cond.code yX9_three cX9_three 3 (Option.some FieldType.int) ∈ zTb := zT2 113 rfl rfl
theorem n_MX9_three : Cond.instanceMethod yX9_three ∈ zTb := zT2 111 (by decide +kernel) rfl
theorem e_MX9_three : Cond.selects RX9 yX9_three yX9_three ∈ zTb := zT2 112 (by decide +kernel) rfl
abbrev MX9_oneIf : zM := (yX9_oneIf, cX9_oneIf, 1, (Option.some FieldType.int))
theorem k_MX9_oneIf : Cond.code yX9_oneIf cX9_oneIf 1 (Option.some FieldType.int) ∈ zTb := zT2 116 rfl rfl
theorem s_MX9_oneIf : Cond.static yX9_oneIf ∈ zTb := zT2 115 (by decide +kernel) rfl
abbrev MX9_of : zM := (yX9_of, cX9_of, 4, (Option.some FieldType.int))
theorem k_MX9_of : Cond.code yX9_of cX9_of 4 (Option.some FieldType.int) ∈ zTb := zT2 120 rfl rfl
theorem n_MX9_of : Cond.instanceMethod yX9_of ∈ zTb := zT2 118 (by decide +kernel) rfl
theorem e_MX9_of : Cond.selects RX9 yX9_of yX9_of ∈ zTb := zT2 119 (by decide +kernel) rfl
abbrev MX9_marginOf : zM := (yX9_marginOf, cX9_marginOf, 3, (Option.some FieldType.int))
theorem k_MX9_marginOf : Cond.code yX9_marginOf cX9_marginOf 3 (Option.some FieldType.int) ∈ zTb := zT2 124 rfl rfl
theorem n_MX9_marginOf : Cond.instanceMethod yX9_marginOf ∈ zTb := zT2 122 (by decide +kernel) rfl
theorem e_MX9_marginOf : Cond.selects RX9 yX9_marginOf yX9_marginOf ∈ zTb := zT2 123 (by decide +kernel) rfl
abbrev MX9_feed : zM := (yX9_feed, cX9_feed, 2, (Option.some FieldType.int))
theorem k_MX9_feed : Cond.code yX9_feed cX9_feed 2 (Option.some FieldType.int) ∈ zTb := zT2 128 rfl rfl
theorem n_MX9_feed : Cond.instanceMethod yX9_feed ∈ zTb := zT2 126 (by decide +kernel) rfl
theorem e_MX9_feed : Cond.selects RX9 yX9_feed yX9_feed ∈ zTb := zT2 127 (by decide +kernel) rfl
abbrev MX5_append : zM := (yX5_append, cX5_append, 2, (Option.some FieldType.int))
theorem k_MX5_append : Cond.code yX5_append cX5_append 2 (Option.some FieldType.int) ∈ zTb := zT2 132 rfl rfl
theorem n_MX5_append : Cond.instanceMethod yX5_append ∈ zTb := zT2 130 (by decide +kernel) rfl
theorem e_MX5_append : Cond.selects RX5 yX5_append yX5_append ∈ zTb := zT2 131 (by decide +kernel) rfl
abbrev MX9_read : zM := (yX9_read, cX9_read, 3, (Option.some FieldType.int))
theorem k_MX9_read : Cond.code yX9_read cX9_read 3 (Option.some FieldType.int) ∈ zTb := zT2 136 rfl rfl
theorem n_MX9_read : Cond.instanceMethod yX9_read ∈ zTb := zT2 134 (by decide +kernel) rfl
theorem e_MX9_read : Cond.selects RX9 yX9_read yX9_read ∈ zTb := zT2 135 (by decide +kernel) rfl
abbrev MX5_fault : zM := (yX5_fault, cX5_fault, 4, (Option.some FieldType.int))
theorem k_MX5_fault : Cond.code yX5_fault cX5_fault 4 (Option.some FieldType.int) ∈ zTb := zT2 140 rfl rfl
theorem n_MX5_fault : Cond.instanceMethod yX5_fault ∈ zTb := zT2 138 (by decide +kernel) rfl
theorem e_MX5_fault : Cond.selects RX5 yX5_fault yX5_fault ∈ zTb := zT2 139 (by decide +kernel) rfl
abbrev MX5_clauseEnd : zM := (yX5_clauseEnd, cX5_clauseEnd, 2, (Option.some FieldType.int))
theorem k_MX5_clauseEnd : Cond.code yX5_clauseEnd cX5_clauseEnd 2 (Option.some FieldType.int) ∈ zTb := zT2 144 rfl rfl
theorem n_MX5_clauseEnd : Cond.instanceMethod yX5_clauseEnd ∈ zTb := zT2 142 (by decide +kernel) rfl
theorem e_MX5_clauseEnd : Cond.selects RX5 yX5_clauseEnd yX5_clauseEnd ∈ zTb := zT2 143 (by decide +kernel) rfl
abbrev MX5_sign : zM := (yX5_sign, cX5_sign, 2, (Option.some FieldType.int))
theorem k_MX5_sign : Cond.code yX5_sign cX5_sign 2 (Option.some FieldType.int) ∈ zTb := zT2 148 rfl rfl
theorem n_MX5_sign : Cond.instanceMethod yX5_sign ∈ zTb := zT2 146 (by decide +kernel) rfl
theorem e_MX5_sign : Cond.selects RX5 yX5_sign yX5_sign ∈ zTb := zT2 147 (by decide +kernel) rfl
abbrev MX5_digitsEnd : zM := (yX5_digitsEnd, cX5_digitsEnd, 6, (Option.some FieldType.int))
theorem k_MX5_digitsEnd : Cond.code yX5_digitsEnd cX5_digitsEnd 6 (Option.some FieldType.int) ∈ zTb := zT2 152 rfl rfl
theorem n_MX5_digitsEnd : Cond.instanceMethod yX5_digitsEnd ∈ zTb := zT2 151 (by decide +kernel) rfl
theorem e_MX5_digitsEnd : Cond.selects RX5 yX5_digitsEnd yX5_digitsEnd ∈ zTb := zTs (q := lw_privs.getD 0 (⟨"", "", ""⟩, 0)) 0 rfl
abbrev MX5_digit : zM := (yX5_digit, cX5_digit, 3, (Option.some FieldType.int))
theorem k_MX5_digit : Cond.code yX5_digit cX5_digit 3 (Option.some FieldType.int) ∈ zTb := zT2 156 rfl rfl
theorem n_MX5_digit : Cond.instanceMethod yX5_digit ∈ zTb := zT2 154 (by decide +kernel) rfl
theorem e_MX5_digit : Cond.selects RX5 yX5_digit yX5_digit ∈ zTb := zT2 155 (by decide +kernel) rfl
abbrev MX9_doClauses : zM := (yX9_doClauses, cX9_doClauses, 5, (Option.some FieldType.int))
theorem k_MX9_doClauses : Cond.code yX9_doClauses cX9_doClauses 5 (Option.some FieldType.int) ∈ zTb := zT2 160 rfl rfl
theorem n_MX9_doClauses : Cond.instanceMethod yX9_doClauses ∈ zTb := zT2 159 (by decide +kernel) rfl
theorem e_MX9_doClauses : Cond.selects RX9 yX9_doClauses yX9_doClauses ∈ zTb := zTs (q := lw_privs.getD 1 (⟨"", "", ""⟩, 0)) 1 rfl
abbrev MX9_isClauseDone : zM := (yX9_isClauseDone, cX9_isClauseDone, 6, (Option.some FieldType.boolean))
theorem k_MX9_isClauseDone : Cond.code yX9_isClauseDone cX9_isClauseDone 6 (Option.some FieldType.boolean) ∈ zTb := zT2 165 rfl rfl
theorem n_MX9_isClauseDone : Cond.instanceMethod yX9_isClauseDone ∈ zTb := zT2 164 (by decide +kernel) rfl
theorem e_MX9_isClauseDone : Cond.selects RX9 yX9_isClauseDone yX9_isClauseDone ∈ zTb := zTs (q := lw_privs.getD 2 (⟨"", "", ""⟩, 0)) 2 rfl
abbrev MX5_number : zM := (yX5_number, cX5_number, 3, (Option.some FieldType.int))
theorem k_MX5_number : Cond.code yX5_number cX5_number 3 (Option.some FieldType.int) ∈ zTb := zT2 170 rfl rfl
theorem n_MX5_number : Cond.instanceMethod yX5_number ∈ zTb := zT2 168 (by decide +kernel) rfl
theorem e_MX5_number : Cond.selects RX5 yX5_number yX5_number ∈ zTb := zT2 169 (by decide +kernel) rfl
abbrev MX9_begin : zM := (yX9_begin, cX9_begin, 2, (Option.some FieldType.int))
theorem k_MX9_begin : Cond.code yX9_begin cX9_begin 2 (Option.some FieldType.int) ∈ zTb := zT2 180 rfl rfl
theorem n_MX9_begin : Cond.instanceMethod yX9_begin ∈ zTb := zT2 178 (by decide +kernel) rfl
theorem e_MX9_begin : Cond.selects RX9 yX9_begin yX9_begin ∈ zTb := zT2 179 (by decide +kernel) rfl
abbrev MX9_fit : zM := (yX9_fit, cX9_fit, 3, (Option.some FieldType.int))
theorem k_MX9_fit : Cond.code yX9_fit cX9_fit 3 (Option.some FieldType.int) ∈ zTb := zT2 184 rfl rfl
theorem n_MX9_fit : Cond.instanceMethod yX9_fit ∈ zTb := zT2 182 (by decide +kernel) rfl
theorem e_MX9_fit : Cond.selects RX9 yX9_fit yX9_fit ∈ zTb := zT2 183 (by decide +kernel) rfl
abbrev MX7_copyFrom : zM := (yX7_copyFrom, cX7_copyFrom, 2, (none : Option FieldType))
theorem k_MX7_copyFrom : Cond.code yX7_copyFrom cX7_copyFrom 2 (none : Option FieldType) ∈ zTb := zT2 188 rfl rfl
theorem n_MX7_copyFrom : Cond.instanceMethod yX7_copyFrom ∈ zTb := zT2 186 (by decide +kernel) rfl
theorem e_MX7_copyFrom : Cond.selects RX7 yX7_copyFrom yX7_copyFrom ∈ zTb := zT2 187 (by decide +kernel) rfl
abbrev MX7_isFitted : zM := (yX7_isFitted, cX7_isFitted, 4, (Option.some FieldType.boolean))
theorem k_MX7_isFitted : Cond.code yX7_isFitted cX7_isFitted 4 (Option.some FieldType.boolean) ∈ zTb := zT2 195 rfl rfl
theorem n_MX7_isFitted : Cond.instanceMethod yX7_isFitted ∈ zTb := zT2 193 (by decide +kernel) rfl
theorem e_MX7_isFitted : Cond.selects RX7 yX7_isFitted yX7_isFitted ∈ zTb := zT2 194 (by decide +kernel) rfl
abbrev MX7_isSummed : zM := (yX7_isSummed, cX7_isSummed, 7, (Option.some FieldType.boolean))
theorem k_MX7_isSummed : Cond.code yX7_isSummed cX7_isSummed 7 (Option.some FieldType.boolean) ∈ zTb := zT2 200 rfl rfl
theorem n_MX7_isSummed : Cond.instanceMethod yX7_isSummed ∈ zTb := zT2 198 (by decide +kernel) rfl
theorem e_MX7_isSummed : Cond.selects RX7 yX7_isSummed yX7_isSummed ∈ zTb := zT2 199 (by decide +kernel) rfl
abbrev MX0_become : zM := (yX0_become, cX0_become, 5, (none : Option FieldType))
theorem k_MX0_become : Cond.code yX0_become cX0_become 5 (none : Option FieldType) ∈ zTb := zT2 204 rfl rfl
theorem n_MX0_become : Cond.instanceMethod yX0_become ∈ zTb := zT2 202 (by decide +kernel) rfl
theorem e_MX0_become : Cond.selects RX0 yX0_become yX0_become ∈ zTb := zT2 203 (by decide +kernel) rfl
abbrev MX0_commonOf : zM := (yX0_commonOf, cX0_commonOf, 7, (Option.some FieldType.long))
theorem k_MX0_commonOf : Cond.code yX0_commonOf cX0_commonOf 7 (Option.some FieldType.long) ∈ zTb := zT2 207 rfl rfl
theorem s_MX0_commonOf : Cond.static yX0_commonOf ∈ zTb := zT2 206 (by decide +kernel) rfl
abbrev MX0_cut : zM := (yX0_cut, cX0_cut, 7, (none : Option FieldType))
theorem k_MX0_cut : Cond.code yX0_cut cX0_cut 7 (none : Option FieldType) ∈ zTb := zT2 211 rfl rfl
theorem n_MX0_cut : Cond.instanceMethod yX0_cut ∈ zTb := zT2 210 (by decide +kernel) rfl
theorem e_MX0_cut : Cond.selects RX0 yX0_cut yX0_cut ∈ zTb := zTs (q := lw_privs.getD 3 (⟨"", "", ""⟩, 0)) 3 rfl
abbrev MX6_lineOf : zM := (yX6_lineOf, cX6_lineOf, 4, (Option.some FieldType.int))
theorem k_MX6_lineOf : Cond.code yX6_lineOf cX6_lineOf 4 (Option.some FieldType.int) ∈ zTb := zT2 215 rfl rfl
theorem n_MX6_lineOf : Cond.instanceMethod yX6_lineOf ∈ zTb := zT2 213 (by decide +kernel) rfl
theorem e_MX6_lineOf : Cond.selects RX6 yX6_lineOf yX6_lineOf ∈ zTb := zT2 214 (by decide +kernel) rfl
abbrev MX0_add : zM := (yX0_add, cX0_add, 9, (none : Option FieldType))
theorem k_MX0_add : Cond.code yX0_add cX0_add 9 (none : Option FieldType) ∈ zTb := zT2 221 rfl rfl
theorem n_MX0_add : Cond.instanceMethod yX0_add ∈ zTb := zT2 219 (by decide +kernel) rfl
theorem e_MX0_add : Cond.selects RX0 yX0_add yX0_add ∈ zTb := zT2 220 (by decide +kernel) rfl
abbrev MX0_isFine : zM := (yX0_isFine, cX0_isFine, 1, (Option.some FieldType.boolean))
theorem k_MX0_isFine : Cond.code yX0_isFine cX0_isFine 1 (Option.some FieldType.boolean) ∈ zTb := zT2 225 rfl rfl
theorem n_MX0_isFine : Cond.instanceMethod yX0_isFine ∈ zTb := zT2 223 (by decide +kernel) rfl
theorem e_MX0_isFine : Cond.selects RX0 yX0_isFine yX0_isFine ∈ zTb := zT2 224 (by decide +kernel) rfl
abbrev MX7_isLineFitted : zM := (yX7_isLineFitted, cX7_isLineFitted, 9, (Option.some FieldType.boolean))
theorem k_MX7_isLineFitted : Cond.code yX7_isLineFitted cX7_isLineFitted 9 (Option.some FieldType.boolean) ∈ zTb := zT2 230 rfl rfl
theorem n_MX7_isLineFitted : Cond.instanceMethod yX7_isLineFitted ∈ zTb := zT2 229 (by decide +kernel) rfl
theorem e_MX7_isLineFitted : Cond.selects RX7 yX7_isLineFitted yX7_isLineFitted ∈ zTb := zTs (q := lw_privs.getD 4 (⟨"", "", ""⟩, 0)) 4 rfl
abbrev MX7_countOtherwise : zM := (yX7_countOtherwise, cX7_countOtherwise, 7, (Option.some FieldType.int))
theorem k_MX7_countOtherwise : Cond.code yX7_countOtherwise cX7_countOtherwise 7 (Option.some FieldType.int) ∈ zTb := zT2 234 rfl rfl
theorem n_MX7_countOtherwise : Cond.instanceMethod yX7_countOtherwise ∈ zTb := zT2 232 (by decide +kernel) rfl
theorem e_MX7_countOtherwise : Cond.selects RX7 yX7_countOtherwise yX7_countOtherwise ∈ zTb := zT2 233 (by decide +kernel) rfl
abbrev MX9_rounds : zM := (yX9_rounds, cX9_rounds, 3, (Option.some FieldType.int))
theorem k_MX9_rounds : Cond.code yX9_rounds cX9_rounds 3 (Option.some FieldType.int) ∈ zTb := zT2 238 rfl rfl
theorem n_MX9_rounds : Cond.instanceMethod yX9_rounds ∈ zTb := zT2 236 (by decide +kernel) rfl
theorem e_MX9_rounds : Cond.selects RX9 yX9_rounds yX9_rounds ∈ zTb := zT2 237 (by decide +kernel) rfl
abbrev MX9_isRoundDone : zM := (yX9_isRoundDone, cX9_isRoundDone, 3, (Option.some FieldType.boolean))
theorem k_MX9_isRoundDone : Cond.code yX9_isRoundDone cX9_isRoundDone 3 (Option.some FieldType.boolean) ∈ zTb := zT3 2 rfl rfl
theorem n_MX9_isRoundDone : Cond.instanceMethod yX9_isRoundDone ∈ zTb := zT3 1 (by decide +kernel) rfl
theorem e_MX9_isRoundDone : Cond.selects RX9 yX9_isRoundDone yX9_isRoundDone ∈ zTb := zTs (q := lw_privs.getD 5 (⟨"", "", ""⟩, 0)) 5 rfl
abbrev MX9_cell : zM := (yX9_cell, cX9_cell, 4, (Option.some FieldType.long))
theorem k_MX9_cell : Cond.code yX9_cell cX9_cell 4 (Option.some FieldType.long) ∈ zTb := zT3 6 rfl rfl
theorem n_MX9_cell : Cond.instanceMethod yX9_cell ∈ zTb := zT3 4 (by decide +kernel) rfl
theorem e_MX9_cell : Cond.selects RX9 yX9_cell yX9_cell ∈ zTb := zT3 5 (by decide +kernel) rfl
abbrev MX9_sum : zM := (yX9_sum, cX9_sum, 4, (Option.some FieldType.long))
theorem k_MX9_sum : Cond.code yX9_sum cX9_sum 4 (Option.some FieldType.long) ∈ zTb := zT3 11 rfl rfl
theorem n_MX9_sum : Cond.instanceMethod yX9_sum ∈ zTb := zT3 9 (by decide +kernel) rfl
theorem e_MX9_sum : Cond.selects RX9 yX9_sum yX9_sum ∈ zTb := zT3 10 (by decide +kernel) rfl
abbrev MX0_partOf : zM := (yX0_partOf, cX0_partOf, 2, (Option.some FieldType.long))
theorem k_MX0_partOf : Cond.code yX0_partOf cX0_partOf 2 (Option.some FieldType.long) ∈ zTb := zT3 16 rfl rfl
theorem n_MX0_partOf : Cond.instanceMethod yX0_partOf ∈ zTb := zT3 14 (by decide +kernel) rfl
theorem e_MX0_partOf : Cond.selects RX0 yX0_partOf yX0_partOf ∈ zTb := zT3 15 (by decide +kernel) rfl
abbrev MX9_gap : zM := (yX9_gap, cX9_gap, 4, (Option.some FieldType.long))
theorem k_MX9_gap : Cond.code yX9_gap cX9_gap 4 (Option.some FieldType.long) ∈ zTb := zT3 21 rfl rfl
theorem n_MX9_gap : Cond.instanceMethod yX9_gap ∈ zTb := zT3 19 (by decide +kernel) rfl
theorem e_MX9_gap : Cond.selects RX9 yX9_gap yX9_gap ∈ zTb := zT3 20 (by decide +kernel) rfl
abbrev MX9_isGapFound : zM := (yX9_isGapFound, cX9_isGapFound, 5, (Option.some FieldType.boolean))
theorem k_MX9_isGapFound : Cond.code yX9_isGapFound cX9_isGapFound 5 (Option.some FieldType.boolean) ∈ zTb := zT3 25 rfl rfl
theorem n_MX9_isGapFound : Cond.instanceMethod yX9_isGapFound ∈ zTb := zT3 24 (by decide +kernel) rfl
theorem e_MX9_isGapFound : Cond.selects RX9 yX9_isGapFound yX9_isGapFound ∈ zTb := zTs (q := lw_privs.getD 6 (⟨"", "", ""⟩, 0)) 6 rfl
abbrev MJ9_abs_067f4 : zM := (yJ9_abs_067f4, cJ9_abs_067f4, 2, (Option.some FieldType.long))
theorem k_MJ9_abs_067f4 : Cond.code yJ9_abs_067f4 cJ9_abs_067f4 2 (Option.some FieldType.long) ∈ zTb := zT3 28 rfl rfl
theorem s_MJ9_abs_067f4 : Cond.static yJ9_abs_067f4 ∈ zTb := zT3 27 (by decide +kernel) rfl
abbrev MX9_farthest : zM := (yX9_farthest, cX9_farthest, 1, (Option.some FieldType.int))
theorem k_MX9_farthest : Cond.code yX9_farthest cX9_farthest 1 (Option.some FieldType.int) ∈ zTb := zT3 33 rfl rfl
theorem n_MX9_farthest : Cond.instanceMethod yX9_farthest ∈ zTb := zT3 31 (by decide +kernel) rfl
theorem e_MX9_farthest : Cond.selects RX9 yX9_farthest yX9_farthest ∈ zTb := zT3 32 (by decide +kernel) rfl
abbrev MX9_seekWidest : zM := (yX9_seekWidest, cX9_seekWidest, 5, (Option.some FieldType.int))
theorem k_MX9_seekWidest : Cond.code yX9_seekWidest cX9_seekWidest 5 (Option.some FieldType.int) ∈ zTb := zT3 37 rfl rfl
theorem n_MX9_seekWidest : Cond.instanceMethod yX9_seekWidest ∈ zTb := zT3 36 (by decide +kernel) rfl
theorem e_MX9_seekWidest : Cond.selects RX9 yX9_seekWidest yX9_seekWidest ∈ zTb := zTs (q := lw_privs.getD 7 (⟨"", "", ""⟩, 0)) 7 rfl
abbrev MX0_isMoreThan : zM := (yX0_isMoreThan, cX0_isMoreThan, 2, (Option.some FieldType.boolean))
theorem k_MX0_isMoreThan : Cond.code yX0_isMoreThan cX0_isMoreThan 2 (Option.some FieldType.boolean) ∈ zTb := zT3 42 rfl rfl
theorem n_MX0_isMoreThan : Cond.instanceMethod yX0_isMoreThan ∈ zTb := zT3 40 (by decide +kernel) rfl
theorem e_MX0_isMoreThan : Cond.selects RX0 yX0_isMoreThan yX0_isMoreThan ∈ zTb := zT3 41 (by decide +kernel) rfl
abbrev MX9_told : zM := (yX9_told, cX9_told, 2, (Option.some FieldType.int))
theorem k_MX9_told : Cond.code yX9_told cX9_told 2 (Option.some FieldType.int) ∈ zTb := zT3 46 rfl rfl
theorem n_MX9_told : Cond.instanceMethod yX9_told ∈ zTb := zT3 44 (by decide +kernel) rfl
theorem e_MX9_told : Cond.selects RX9 yX9_told yX9_told ∈ zTb := zT3 45 (by decide +kernel) rfl
abbrev MX6_isPossible : zM := (yX6_isPossible, cX6_isPossible, 1, (Option.some FieldType.boolean))
theorem k_MX6_isPossible : Cond.code yX6_isPossible cX6_isPossible 1 (Option.some FieldType.boolean) ∈ zTb := zT3 50 rfl rfl
theorem n_MX6_isPossible : Cond.instanceMethod yX6_isPossible ∈ zTb := zT3 48 (by decide +kernel) rfl
theorem e_MX6_isPossible : Cond.selects RX6 yX6_isPossible yX6_isPossible ∈ zTb := zT3 49 (by decide +kernel) rfl
abbrev MX6_allMargins : zM := (yX6_allMargins, cX6_allMargins, 4, (Option.some FieldType.int))
theorem k_MX6_allMargins : Cond.code yX6_allMargins cX6_allMargins 4 (Option.some FieldType.int) ∈ zTb := zT3 54 rfl rfl
theorem n_MX6_allMargins : Cond.instanceMethod yX6_allMargins ∈ zTb := zT3 52 (by decide +kernel) rfl
theorem e_MX6_allMargins : Cond.selects RX6 yX6_allMargins yX6_allMargins ∈ zTb := zT3 53 (by decide +kernel) rfl
abbrev MX6_forbids : zM := (yX6_forbids, cX6_forbids, 4, (Option.some FieldType.int))
theorem k_MX6_forbids : Cond.code yX6_forbids cX6_forbids 4 (Option.some FieldType.int) ∈ zTb := zT3 58 rfl rfl
theorem n_MX6_forbids : Cond.instanceMethod yX6_forbids ∈ zTb := zT3 56 (by decide +kernel) rfl
theorem e_MX6_forbids : Cond.selects RX6 yX6_forbids yX6_forbids ∈ zTb := zT3 57 (by decide +kernel) rfl
abbrev MJ6_bitCount_0f7a4 : zM := (yJ6_bitCount_0f7a4, cJ6_bitCount_0f7a4, 1, (Option.some FieldType.int))
theorem k_MJ6_bitCount_0f7a4 : Cond.code yJ6_bitCount_0f7a4 cJ6_bitCount_0f7a4 1 (Option.some FieldType.int) ∈ zTb := zT3 61 rfl rfl
theorem s_MJ6_bitCount_0f7a4 : Cond.static yJ6_bitCount_0f7a4 ∈ zTb := zT3 60 (by decide +kernel) rfl
abbrev MX6_marginsOf : zM := (yX6_marginsOf, cX6_marginsOf, 4, (Option.some FieldType.int))
theorem k_MX6_marginsOf : Cond.code yX6_marginsOf cX6_marginsOf 4 (Option.some FieldType.int) ∈ zTb := zT3 68 rfl rfl
theorem n_MX6_marginsOf : Cond.instanceMethod yX6_marginsOf ∈ zTb := zT3 67 (by decide +kernel) rfl
theorem e_MX6_marginsOf : Cond.selects RX6 yX6_marginsOf yX6_marginsOf ∈ zTb := zTs (q := lw_privs.getD 8 (⟨"", "", ""⟩, 0)) 8 rfl
abbrev MX6_marginsReached : zM := (yX6_marginsReached, cX6_marginsReached, 4, (Option.some FieldType.int))
theorem k_MX6_marginsReached : Cond.code yX6_marginsReached cX6_marginsReached 4 (Option.some FieldType.int) ∈ zTb := zT3 72 rfl rfl
theorem n_MX6_marginsReached : Cond.instanceMethod yX6_marginsReached ∈ zTb := zT3 71 (by decide +kernel) rfl
theorem e_MX6_marginsReached : Cond.selects RX6 yX6_marginsReached yX6_marginsReached ∈ zTb := zTs (q := lw_privs.getD 9 (⟨"", "", ""⟩, 0)) 9 rfl
abbrev MX6_isReached : zM := (yX6_isReached, cX6_isReached, 4, (Option.some FieldType.boolean))
theorem k_MX6_isReached : Cond.code yX6_isReached cX6_isReached 4 (Option.some FieldType.boolean) ∈ zTb := zT3 76 rfl rfl
theorem n_MX6_isReached : Cond.instanceMethod yX6_isReached ∈ zTb := zT3 75 (by decide +kernel) rfl
theorem e_MX6_isReached : Cond.selects RX6 yX6_isReached yX6_isReached ∈ zTb := zTs (q := lw_privs.getD 10 (⟨"", "", ""⟩, 0)) 10 rfl
abbrev MX6_allCounts : zM := (yX6_allCounts, cX6_allCounts, 4, (Option.some FieldType.int))
theorem k_MX6_allCounts : Cond.code yX6_allCounts cX6_allCounts 4 (Option.some FieldType.int) ∈ zTb := zT3 81 rfl rfl
theorem n_MX6_allCounts : Cond.instanceMethod yX6_allCounts ∈ zTb := zT3 79 (by decide +kernel) rfl
theorem e_MX6_allCounts : Cond.selects RX6 yX6_allCounts yX6_allCounts ∈ zTb := zT3 80 (by decide +kernel) rfl
abbrev MX9_rounded : zM := (yX9_rounded, cX9_rounded, 3, (Option.some FieldType.int))
theorem k_MX9_rounded : Cond.code yX9_rounded cX9_rounded 3 (Option.some FieldType.int) ∈ zTb := zT3 85 rfl rfl
theorem n_MX9_rounded : Cond.instanceMethod yX9_rounded ∈ zTb := zT3 83 (by decide +kernel) rfl
theorem e_MX9_rounded : Cond.selects RX9 yX9_rounded yX9_rounded ∈ zTb := zT3 84 (by decide +kernel) rfl
abbrev MX4_isFound : zM := (yX4_isFound, cX4_isFound, 3, (Option.some FieldType.boolean))
theorem k_MX4_isFound : Cond.code yX4_isFound cX4_isFound 3 (Option.some FieldType.boolean) ∈ zTb := zT3 89 rfl rfl
theorem n_MX4_isFound : Cond.instanceMethod yX4_isFound ∈ zTb := zT3 87 (by decide +kernel) rfl
theorem e_MX4_isFound : Cond.selects RX4 yX4_isFound yX4_isFound ∈ zTb := zT3 88 (by decide +kernel) rfl
abbrev MX4_areSumsBounded : zM := (yX4_areSumsBounded, cX4_areSumsBounded, 4, (Option.some FieldType.boolean))
theorem k_MX4_areSumsBounded : Cond.code yX4_areSumsBounded cX4_areSumsBounded 4 (Option.some FieldType.boolean) ∈ zTb := zT3 93 rfl rfl
theorem n_MX4_areSumsBounded : Cond.instanceMethod yX4_areSumsBounded ∈ zTb := zT3 92 (by decide +kernel) rfl
theorem e_MX4_areSumsBounded : Cond.selects RX4 yX4_areSumsBounded yX4_areSumsBounded ∈ zTb := zTs (q := lw_privs.getD 11 (⟨"", "", ""⟩, 0)) 11 rfl
abbrev MX4_boundLine : zM := (yX4_boundLine, cX4_boundLine, 3, (none : Option FieldType))
theorem k_MX4_boundLine : Cond.code yX4_boundLine cX4_boundLine 3 (none : Option FieldType) ∈ zTb := zT3 100 rfl rfl
theorem n_MX4_boundLine : Cond.instanceMethod yX4_boundLine ∈ zTb := zT3 99 (by decide +kernel) rfl
theorem e_MX4_boundLine : Cond.selects RX4 yX4_boundLine yX4_boundLine ∈ zTb := zTs (q := lw_privs.getD 12 (⟨"", "", ""⟩, 0)) 12 rfl
abbrev MX4_wholesOf : zM := (yX4_wholesOf, cX4_wholesOf, 4, (Option.some FieldType.int))
theorem k_MX4_wholesOf : Cond.code yX4_wholesOf cX4_wholesOf 4 (Option.some FieldType.int) ∈ zTb := zT3 103 rfl rfl
theorem s_MX4_wholesOf : Cond.static yX4_wholesOf ∈ zTb := zT3 102 (by decide +kernel) rfl
abbrev MX4_boundCells : zM := (yX4_boundCells, cX4_boundCells, 3, (none : Option FieldType))
theorem k_MX4_boundCells : Cond.code yX4_boundCells cX4_boundCells 3 (none : Option FieldType) ∈ zTb := zT3 110 rfl rfl
theorem n_MX4_boundCells : Cond.instanceMethod yX4_boundCells ∈ zTb := zT3 109 (by decide +kernel) rfl
theorem e_MX4_boundCells : Cond.selects RX4 yX4_boundCells yX4_boundCells ∈ zTb := zTs (q := lw_privs.getD 13 (⟨"", "", ""⟩, 0)) 13 rfl
abbrev MX4_isPutFrom : zM := (yX4_isPutFrom, cX4_isPutFrom, 5, (Option.some FieldType.boolean))
theorem k_MX4_isPutFrom : Cond.code yX4_isPutFrom cX4_isPutFrom 5 (Option.some FieldType.boolean) ∈ zTb := zT3 113 rfl rfl
theorem s_MX4_isPutFrom : Cond.static yX4_isPutFrom ∈ zTb := zT3 112 (by decide +kernel) rfl
abbrev MX4_doColumnsStand : zM := (yX4_doColumnsStand, cX4_doColumnsStand, 4, (Option.some FieldType.boolean))
theorem k_MX4_doColumnsStand : Cond.code yX4_doColumnsStand cX4_doColumnsStand 4 (Option.some FieldType.boolean) ∈ zTb := zT3 117 rfl rfl
theorem n_MX4_doColumnsStand : Cond.instanceMethod yX4_doColumnsStand ∈ zTb := zT3 116 (by decide +kernel) rfl
theorem e_MX4_doColumnsStand : Cond.selects RX4 yX4_doColumnsStand yX4_doColumnsStand ∈ zTb := zTs (q := lw_privs.getD 14 (⟨"", "", ""⟩, 0)) 14 rfl
abbrev MX4_stands : zM := (yX4_stands, cX4_stands, 3, (Option.some FieldType.boolean))
theorem k_MX4_stands : Cond.code yX4_stands cX4_stands 3 (Option.some FieldType.boolean) ∈ zTb := zT3 121 rfl rfl
theorem n_MX4_stands : Cond.instanceMethod yX4_stands ∈ zTb := zT3 120 (by decide +kernel) rfl
theorem e_MX4_stands : Cond.selects RX4 yX4_stands yX4_stands ∈ zTb := zTs (q := lw_privs.getD 15 (⟨"", "", ""⟩, 0)) 15 rfl
abbrev MX4_allPut : zM := (yX4_allPut, cX4_allPut, 3, (Option.some FieldType.int))
theorem k_MX4_allPut : Cond.code yX4_allPut cX4_allPut 3 (Option.some FieldType.int) ∈ zTb := zT3 125 rfl rfl
theorem n_MX4_allPut : Cond.instanceMethod yX4_allPut ∈ zTb := zT3 124 (by decide +kernel) rfl
theorem e_MX4_allPut : Cond.selects RX4 yX4_allPut yX4_allPut ∈ zTb := zTs (q := lw_privs.getD 16 (⟨"", "", ""⟩, 0)) 16 rfl
abbrev MX4_rowPut : zM := (yX4_rowPut, cX4_rowPut, 4, (Option.some FieldType.int))
theorem k_MX4_rowPut : Cond.code yX4_rowPut cX4_rowPut 4 (Option.some FieldType.int) ∈ zTb := zT3 129 rfl rfl
theorem n_MX4_rowPut : Cond.instanceMethod yX4_rowPut ∈ zTb := zT3 128 (by decide +kernel) rfl
theorem e_MX4_rowPut : Cond.selects RX4 yX4_rowPut yX4_rowPut ∈ zTb := zTs (q := lw_privs.getD 17 (⟨"", "", ""⟩, 0)) 17 rfl
abbrev MX9_together : zM := (yX9_together, cX9_together, 6, (Option.some FieldType.int))
theorem k_MX9_together : Cond.code yX9_together cX9_together 6 (Option.some FieldType.int) ∈ zTb := zT3 133 rfl rfl
theorem n_MX9_together : Cond.instanceMethod yX9_together ∈ zTb := zT3 131 (by decide +kernel) rfl
theorem e_MX9_together : Cond.selects RX9 yX9_together yX9_together ∈ zTb := zT3 132 (by decide +kernel) rfl
abbrev MX9_cross : zM := (yX9_cross, cX9_cross, 6, (Option.some FieldType.long))
theorem k_MX9_cross : Cond.code yX9_cross cX9_cross 6 (Option.some FieldType.long) ∈ zTb := zT3 138 rfl rfl
theorem n_MX9_cross : Cond.instanceMethod yX9_cross ∈ zTb := zT3 136 (by decide +kernel) rfl
theorem e_MX9_cross : Cond.selects RX9 yX9_cross yX9_cross ∈ zTb := zT3 137 (by decide +kernel) rfl
abbrev MX3_clear : zM := (yX3_clear, cX3_clear, 1, (none : Option FieldType))
theorem k_MX3_clear : Cond.code yX3_clear cX3_clear 1 (none : Option FieldType) ∈ zTb := zT3 142 rfl rfl
theorem n_MX3_clear : Cond.instanceMethod yX3_clear ∈ zTb := zT3 140 (by decide +kernel) rfl
theorem e_MX3_clear : Cond.selects RX3 yX3_clear yX3_clear ∈ zTb := zT3 141 (by decide +kernel) rfl
abbrev MX3_times : zM := (yX3_times, cX3_times, 3, (none : Option FieldType))
theorem k_MX3_times : Cond.code yX3_times cX3_times 3 (none : Option FieldType) ∈ zTb := zT3 146 rfl rfl
theorem n_MX3_times : Cond.instanceMethod yX3_times ∈ zTb := zT3 144 (by decide +kernel) rfl
theorem e_MX3_times : Cond.selects RX3 yX3_times yX3_times ∈ zTb := zT3 145 (by decide +kernel) rfl
abbrev MX3_append : zM := (yX3_append, cX3_append, 5, (none : Option FieldType))
theorem k_MX3_append : Cond.code yX3_append cX3_append 5 (none : Option FieldType) ∈ zTb := zT3 150 rfl rfl
theorem n_MX3_append : Cond.instanceMethod yX3_append ∈ zTb := zT3 149 (by decide +kernel) rfl
theorem e_MX3_append : Cond.selects RX3 yX3_append yX3_append ∈ zTb := zTs (q := lw_privs.getD 18 (⟨"", "", ""⟩, 0)) 18 rfl
abbrev MX3_by : zM := (yX3_by, cX3_by, 3, (none : Option FieldType))
theorem k_MX3_by : Cond.code yX3_by cX3_by 3 (none : Option FieldType) ∈ zTb := zT3 154 rfl rfl
theorem n_MX3_by : Cond.instanceMethod yX3_by ∈ zTb := zT3 152 (by decide +kernel) rfl
theorem e_MX3_by : Cond.selects RX3 yX3_by yX3_by ∈ zTb := zT3 153 (by decide +kernel) rfl
abbrev MX3_partOf : zM := (yX3_partOf, cX3_partOf, 6, (Option.some FieldType.long))
theorem k_MX3_partOf : Cond.code yX3_partOf cX3_partOf 6 (Option.some FieldType.long) ∈ zTb := zT3 158 rfl rfl
theorem n_MX3_partOf : Cond.instanceMethod yX3_partOf ∈ zTb := zT3 156 (by decide +kernel) rfl
theorem e_MX3_partOf : Cond.selects RX3 yX3_partOf yX3_partOf ∈ zTb := zT3 157 (by decide +kernel) rfl
abbrev MX3_cancel : zM := (yX3_cancel, cX3_cancel, 5, (none : Option FieldType))
theorem k_MX3_cancel : Cond.code yX3_cancel cX3_cancel 5 (none : Option FieldType) ∈ zTb := zT3 163 rfl rfl
theorem n_MX3_cancel : Cond.instanceMethod yX3_cancel ∈ zTb := zT3 162 (by decide +kernel) rfl
theorem e_MX3_cancel : Cond.selects RX3 yX3_cancel yX3_cancel ∈ zTb := zTs (q := lw_privs.getD 19 (⟨"", "", ""⟩, 0)) 19 rfl
abbrev MX3_productOf : zM := (yX3_productOf, cX3_productOf, 5, (Option.some FieldType.long))
theorem k_MX3_productOf : Cond.code yX3_productOf cX3_productOf 5 (Option.some FieldType.long) ∈ zTb := zT3 168 rfl rfl
theorem n_MX3_productOf : Cond.instanceMethod yX3_productOf ∈ zTb := zT3 167 (by decide +kernel) rfl
theorem e_MX3_productOf : Cond.selects RX3 yX3_productOf yX3_productOf ∈ zTb := zTs (q := lw_privs.getD 20 (⟨"", "", ""⟩, 0)) 20 rfl
abbrev MX0_product : zM := (yX0_product, cX0_product, 4, (Option.some FieldType.long))
theorem k_MX0_product : Cond.code yX0_product cX0_product 4 (Option.some FieldType.long) ∈ zTb := zT3 171 rfl rfl
theorem s_MX0_product : Cond.static yX0_product ∈ zTb := zT3 170 (by decide +kernel) rfl
abbrev MX9_orders : zM := (yX9_orders, cX9_orders, 7, (Option.some FieldType.long))
theorem k_MX9_orders : Cond.code yX9_orders cX9_orders 7 (Option.some FieldType.long) ∈ zTb := zT3 176 rfl rfl
theorem n_MX9_orders : Cond.instanceMethod yX9_orders ∈ zTb := zT3 174 (by decide +kernel) rfl
theorem e_MX9_orders : Cond.selects RX9 yX9_orders yX9_orders ∈ zTb := zT3 175 (by decide +kernel) rfl
abbrev MX0_timesBy : zM := (yX0_timesBy, cX0_timesBy, 10, (Option.some FieldType.long))
theorem k_MX0_timesBy : Cond.code yX0_timesBy cX0_timesBy 10 (Option.some FieldType.long) ∈ zTb := zT3 179 rfl rfl
theorem s_MX0_timesBy : Cond.static yX0_timesBy ∈ zTb := zT3 178 (by decide +kernel) rfl
abbrev MX9_rank : zM := (yX9_rank, cX9_rank, 4, (Option.some FieldType.int))
theorem k_MX9_rank : Cond.code yX9_rank cX9_rank 4 (Option.some FieldType.int) ∈ zTb := zT3 184 rfl rfl
theorem n_MX9_rank : Cond.instanceMethod yX9_rank ∈ zTb := zT3 182 (by decide +kernel) rfl
theorem e_MX9_rank : Cond.selects RX9 yX9_rank yX9_rank ∈ zTb := zT3 183 (by decide +kernel) rfl
abbrev MX9_countAhead : zM := (yX9_countAhead, cX9_countAhead, 7, (Option.some FieldType.int))
theorem k_MX9_countAhead : Cond.code yX9_countAhead cX9_countAhead 7 (Option.some FieldType.int) ∈ zTb := zT3 188 rfl rfl
theorem n_MX9_countAhead : Cond.instanceMethod yX9_countAhead ∈ zTb := zT3 187 (by decide +kernel) rfl
theorem e_MX9_countAhead : Cond.selects RX9 yX9_countAhead yX9_countAhead ∈ zTb := zTs (q := lw_privs.getD 21 (⟨"", "", ""⟩, 0)) 21 rfl
abbrev MX7_compare : zM := (yX7_compare, cX7_compare, 3, (Option.some FieldType.int))
theorem k_MX7_compare : Cond.code yX7_compare cX7_compare 3 (Option.some FieldType.int) ∈ zTb := zT3 192 rfl rfl
theorem n_MX7_compare : Cond.instanceMethod yX7_compare ∈ zTb := zT3 190 (by decide +kernel) rfl
theorem e_MX7_compare : Cond.selects RX7 yX7_compare yX7_compare ∈ zTb := zT3 191 (by decide +kernel) rfl
abbrev MJ13_compare_74951 : zM := (yJ13_compare_74951, cJ13_compare_74951, 4, (Option.some FieldType.int))
theorem k_MJ13_compare_74951 : Cond.code yJ13_compare_74951 cJ13_compare_74951 4 (Option.some FieldType.int) ∈ zTb := zT3 195 rfl rfl
theorem s_MJ13_compare_74951 : Cond.static yJ13_compare_74951 ∈ zTb := zT3 194 (by decide +kernel) rfl
abbrev MX9_see : zM := (yX9_see, cX9_see, 4, (Option.some FieldType.int))
theorem k_MX9_see : Cond.code yX9_see cX9_see 4 (Option.some FieldType.int) ∈ zTb := zT3 199 rfl rfl
theorem n_MX9_see : Cond.instanceMethod yX9_see ∈ zTb := zT3 197 (by decide +kernel) rfl
theorem e_MX9_see : Cond.selects RX9 yX9_see yX9_see ∈ zTb := zT3 198 (by decide +kernel) rfl
abbrev MX9_noteCell : zM := (yX9_noteCell, cX9_noteCell, 5, (Option.some FieldType.int))
theorem k_MX9_noteCell : Cond.code yX9_noteCell cX9_noteCell 5 (Option.some FieldType.int) ∈ zTb := zT3 203 rfl rfl
theorem n_MX9_noteCell : Cond.instanceMethod yX9_noteCell ∈ zTb := zT3 202 (by decide +kernel) rfl
theorem e_MX9_noteCell : Cond.selects RX9 yX9_noteCell yX9_noteCell ∈ zTb := zTs (q := lw_privs.getD 22 (⟨"", "", ""⟩, 0)) 22 rfl
abbrev MX1_append : zM := (yX1_append, cX1_append, 3, (Option.some FieldType.int))
theorem k_MX1_append : Cond.code yX1_append cX1_append 3 (Option.some FieldType.int) ∈ zTb := zT3 208 rfl rfl
theorem n_MX1_append : Cond.instanceMethod yX1_append ∈ zTb := zT3 206 (by decide +kernel) rfl
theorem e_MX1_append : Cond.selects RX1 yX1_append yX1_append ∈ zTb := zT3 207 (by decide +kernel) rfl
abbrev MX9_fitting : zM := (yX9_fitting, cX9_fitting, 7, (Option.some FieldType.int))
theorem k_MX9_fitting : Cond.code yX9_fitting cX9_fitting 7 (Option.some FieldType.int) ∈ zTb := zT3 212 rfl rfl
theorem n_MX9_fitting : Cond.instanceMethod yX9_fitting ∈ zTb := zT3 210 (by decide +kernel) rfl
theorem e_MX9_fitting : Cond.selects RX9 yX9_fitting yX9_fitting ∈ zTb := zT3 211 (by decide +kernel) rfl
abbrev MX9_isRoundedBehind : zM := (yX9_isRoundedBehind, cX9_isRoundedBehind, 3, (Option.some FieldType.boolean))
theorem k_MX9_isRoundedBehind : Cond.code yX9_isRoundedBehind cX9_isRoundedBehind 3 (Option.some FieldType.boolean) ∈ zTb := zT3 216 rfl rfl
theorem n_MX9_isRoundedBehind : Cond.instanceMethod yX9_isRoundedBehind ∈ zTb := zT3 215 (by decide +kernel) rfl
theorem e_MX9_isRoundedBehind : Cond.selects RX9 yX9_isRoundedBehind yX9_isRoundedBehind ∈ zTb := zTs (q := lw_privs.getD 23 (⟨"", "", ""⟩, 0)) 23 rfl
abbrev MX6_copyFrom : zM := (yX6_copyFrom, cX6_copyFrom, 2, (none : Option FieldType))
theorem k_MX6_copyFrom : Cond.code yX6_copyFrom cX6_copyFrom 2 (none : Option FieldType) ∈ zTb := zT3 220 rfl rfl
theorem n_MX6_copyFrom : Cond.instanceMethod yX6_copyFrom ∈ zTb := zT3 218 (by decide +kernel) rfl
theorem e_MX6_copyFrom : Cond.selects RX6 yX6_copyFrom yX6_copyFrom ∈ zTb := zT3 219 (by decide +kernel) rfl
abbrev MX9_firstOtherwise : zM := (yX9_firstOtherwise, cX9_firstOtherwise, 3, (Option.some FieldType.int))
theorem k_MX9_firstOtherwise : Cond.code yX9_firstOtherwise cX9_firstOtherwise 3 (Option.some FieldType.int) ∈ zTb := zT3 225 rfl rfl
theorem n_MX9_firstOtherwise : Cond.instanceMethod yX9_firstOtherwise ∈ zTb := zT3 224 (by decide +kernel) rfl
theorem e_MX9_firstOtherwise : Cond.selects RX9 yX9_firstOtherwise yX9_firstOtherwise ∈ zTb := zTs (q := lw_privs.getD 24 (⟨"", "", ""⟩, 0)) 24 rfl
abbrev MX9_odds : zM := (yX9_odds, cX9_odds, 6, (Option.some FieldType.long))
theorem k_MX9_odds : Cond.code yX9_odds cX9_odds 6 (Option.some FieldType.long) ∈ zTb := zT3 229 rfl rfl
theorem n_MX9_odds : Cond.instanceMethod yX9_odds ∈ zTb := zT3 227 (by decide +kernel) rfl
theorem e_MX9_odds : Cond.selects RX9 yX9_odds yX9_odds ∈ zTb := zT3 228 (by decide +kernel) rfl
abbrev MX9_mean : zM := (yX9_mean, cX9_mean, 2, (Option.some FieldType.long))
theorem k_MX9_mean : Cond.code yX9_mean cX9_mean 2 (Option.some FieldType.long) ∈ zTb := zT3 234 rfl rfl
theorem n_MX9_mean : Cond.instanceMethod yX9_mean ∈ zTb := zT3 232 (by decide +kernel) rfl
theorem e_MX9_mean : Cond.selects RX9 yX9_mean yX9_mean ∈ zTb := zT3 233 (by decide +kernel) rfl
abbrev MX9_event : zM := (yX9_event, cX9_event, 3, (Option.some FieldType.int))
theorem k_MX9_event : Cond.code yX9_event cX9_event 3 (Option.some FieldType.int) ∈ zTb := zT3 238 rfl rfl
theorem n_MX9_event : Cond.instanceMethod yX9_event ∈ zTb := zT3 236 (by decide +kernel) rfl
theorem e_MX9_event : Cond.selects RX9 yX9_event yX9_event ∈ zTb := zT3 237 (by decide +kernel) rfl
abbrev MX9_after : zM := (yX9_after, cX9_after, 3, (Option.some FieldType.long))
theorem k_MX9_after : Cond.code yX9_after cX9_after 3 (Option.some FieldType.long) ∈ zTb := zT4 2 rfl rfl
theorem n_MX9_after : Cond.instanceMethod yX9_after ∈ zTb := zT4 0 (by decide +kernel) rfl
theorem e_MX9_after : Cond.selects RX9 yX9_after yX9_after ∈ zTb := zT4 1 (by decide +kernel) rfl
abbrev MX6_happen : zM := (yX6_happen, cX6_happen, 4, (none : Option FieldType))
theorem k_MX6_happen : Cond.code yX6_happen cX6_happen 4 (none : Option FieldType) ∈ zTb := zT4 6 rfl rfl
theorem n_MX6_happen : Cond.instanceMethod yX6_happen ∈ zTb := zT4 4 (by decide +kernel) rfl
theorem e_MX6_happen : Cond.selects RX6 yX6_happen yX6_happen ∈ zTb := zT4 5 (by decide +kernel) rfl
abbrev MX6_raise : zM := (yX6_raise, cX6_raise, 3, (none : Option FieldType))
theorem k_MX6_raise : Cond.code yX6_raise cX6_raise 3 (none : Option FieldType) ∈ zTb := zT4 11 rfl rfl
theorem n_MX6_raise : Cond.instanceMethod yX6_raise ∈ zTb := zT4 10 (by decide +kernel) rfl
theorem e_MX6_raise : Cond.selects RX6 yX6_raise yX6_raise ∈ zTb := zTs (q := lw_privs.getD 25 (⟨"", "", ""⟩, 0)) 25 rfl
abbrev MJ9_min_7cf53 : zM := (yJ9_min_7cf53, cJ9_min_7cf53, 2, (Option.some FieldType.int))
theorem k_MJ9_min_7cf53 : Cond.code yJ9_min_7cf53 cJ9_min_7cf53 2 (Option.some FieldType.int) ∈ zTb := zT4 15 rfl rfl
theorem s_MJ9_min_7cf53 : Cond.static yJ9_min_7cf53 ∈ zTb := zT4 14 (by decide +kernel) rfl
abbrev MX9_book : zM := (yX9_book, cX9_book, 4, (Option.some FieldType.int))
theorem k_MX9_book : Cond.code yX9_book cX9_book 4 (Option.some FieldType.int) ∈ zTb := zT4 20 rfl rfl
theorem n_MX9_book : Cond.instanceMethod yX9_book ∈ zTb := zT4 18 (by decide +kernel) rfl
theorem e_MX9_book : Cond.selects RX9 yX9_book yX9_book ∈ zTb := zT4 19 (by decide +kernel) rfl
abbrev MX9_looked : zM := (yX9_looked, cX9_looked, 1, (Option.some FieldType.int))
theorem k_MX9_looked : Cond.code yX9_looked cX9_looked 1 (Option.some FieldType.int) ∈ zTb := zT4 24 rfl rfl
theorem n_MX9_looked : Cond.instanceMethod yX9_looked ∈ zTb := zT4 22 (by decide +kernel) rfl
theorem e_MX9_looked : Cond.selects RX9 yX9_looked yX9_looked ∈ zTb := zT4 23 (by decide +kernel) rfl
abbrev MX9_judge : zM := (yX9_judge, cX9_judge, 6, (Option.some FieldType.int))
theorem k_MX9_judge : Cond.code yX9_judge cX9_judge 6 (Option.some FieldType.int) ∈ zTb := zT4 28 rfl rfl
theorem n_MX9_judge : Cond.instanceMethod yX9_judge ∈ zTb := zT4 26 (by decide +kernel) rfl
theorem e_MX9_judge : Cond.selects RX9 yX9_judge yX9_judge ∈ zTb := zT4 27 (by decide +kernel) rfl
abbrev MX8_hasTape : zM := (yX8_hasTape, cX8_hasTape, 2, (Option.some FieldType.boolean))
theorem k_MX8_hasTape : Cond.code yX8_hasTape cX8_hasTape 2 (Option.some FieldType.boolean) ∈ zTb := zT4 32 rfl rfl
theorem n_MX8_hasTape : Cond.instanceMethod yX8_hasTape ∈ zTb := zT4 30 (by decide +kernel) rfl
theorem e_MX8_hasTape : Cond.selects RX8 yX8_hasTape yX8_hasTape ∈ zTb := zT4 31 (by decide +kernel) rfl
abbrev MX8_holds : zM := (yX8_holds, cX8_holds, 2, (Option.some FieldType.boolean))
theorem k_MX8_holds : Cond.code yX8_holds cX8_holds 2 (Option.some FieldType.boolean) ∈ zTb := zT4 36 rfl rfl
theorem n_MX8_holds : Cond.instanceMethod yX8_holds ∈ zTb := zT4 34 (by decide +kernel) rfl
theorem e_MX8_holds : Cond.selects RX8 yX8_holds yX8_holds ∈ zTb := zT4 35 (by decide +kernel) rfl
abbrev MX8_isOfInts : zM := (yX8_isOfInts, cX8_isOfInts, 2, (Option.some FieldType.boolean))
theorem k_MX8_isOfInts : Cond.code yX8_isOfInts cX8_isOfInts 2 (Option.some FieldType.boolean) ∈ zTb := zT4 40 rfl rfl
theorem n_MX8_isOfInts : Cond.instanceMethod yX8_isOfInts ∈ zTb := zT4 38 (by decide +kernel) rfl
theorem e_MX8_isOfInts : Cond.selects RX8 yX8_isOfInts yX8_isOfInts ∈ zTb := zT4 39 (by decide +kernel) rfl
abbrev MX8_lengthOf : zM := (yX8_lengthOf, cX8_lengthOf, 2, (Option.some FieldType.int))
theorem k_MX8_lengthOf : Cond.code yX8_lengthOf cX8_lengthOf 2 (Option.some FieldType.int) ∈ zTb := zT4 44 rfl rfl
theorem n_MX8_lengthOf : Cond.instanceMethod yX8_lengthOf ∈ zTb := zT4 42 (by decide +kernel) rfl
theorem e_MX8_lengthOf : Cond.selects RX8 yX8_lengthOf yX8_lengthOf ∈ zTb := zT4 43 (by decide +kernel) rfl
abbrev MX8_itemAt : zM := (yX8_itemAt, cX8_itemAt, 3, (Option.some FieldType.long))
theorem k_MX8_itemAt : Cond.code yX8_itemAt cX8_itemAt 3 (Option.some FieldType.long) ∈ zTb := zT4 48 rfl rfl
theorem n_MX8_itemAt : Cond.instanceMethod yX8_itemAt ∈ zTb := zT4 46 (by decide +kernel) rfl
theorem e_MX8_itemAt : Cond.selects RX8 yX8_itemAt yX8_itemAt ∈ zTb := zT4 47 (by decide +kernel) rfl
abbrev MX9_image : zM := (yX9_image, cX9_image, 1, (Option.some FieldType.int))
theorem k_MX9_image : Cond.code yX9_image cX9_image 1 (Option.some FieldType.int) ∈ zTb := zT4 52 rfl rfl
theorem n_MX9_image : Cond.instanceMethod yX9_image ∈ zTb := zT4 50 (by decide +kernel) rfl
theorem e_MX9_image : Cond.selects RX9 yX9_image yX9_image ∈ zTb := zT4 51 (by decide +kernel) rfl
abbrev MX2_copyFrom : zM := (yX2_copyFrom, cX2_copyFrom, 2, (none : Option FieldType))
theorem k_MX2_copyFrom : Cond.code yX2_copyFrom cX2_copyFrom 2 (none : Option FieldType) ∈ zTb := zT4 56 rfl rfl
theorem n_MX2_copyFrom : Cond.instanceMethod yX2_copyFrom ∈ zTb := zT4 54 (by decide +kernel) rfl
theorem e_MX2_copyFrom : Cond.selects RX2 yX2_copyFrom yX2_copyFrom ∈ zTb := zT4 55 (by decide +kernel) rfl
abbrev MX1_copyFrom : zM := (yX1_copyFrom, cX1_copyFrom, 3, (none : Option FieldType))
theorem k_MX1_copyFrom : Cond.code yX1_copyFrom cX1_copyFrom 3 (none : Option FieldType) ∈ zTb := zT4 62 rfl rfl
theorem n_MX1_copyFrom : Cond.instanceMethod yX1_copyFrom ∈ zTb := zT4 60 (by decide +kernel) rfl
theorem e_MX1_copyFrom : Cond.selects RX1 yX1_copyFrom yX1_copyFrom ∈ zTb := zT4 61 (by decide +kernel) rfl
abbrev MX9_undo : zM := (yX9_undo, cX9_undo, 1, (Option.some FieldType.int))
theorem k_MX9_undo : Cond.code yX9_undo cX9_undo 1 (Option.some FieldType.int) ∈ zTb := zT4 67 rfl rfl
theorem n_MX9_undo : Cond.instanceMethod yX9_undo ∈ zTb := zT4 65 (by decide +kernel) rfl
theorem e_MX9_undo : Cond.selects RX9 yX9_undo yX9_undo ∈ zTb := zT4 66 (by decide +kernel) rfl
abbrev MX9_count : zM := (yX9_count, cX9_count, 2, (Option.some FieldType.int))
theorem k_MX9_count : Cond.code yX9_count cX9_count 2 (Option.some FieldType.int) ∈ zTb := zT4 71 rfl rfl
theorem n_MX9_count : Cond.instanceMethod yX9_count ∈ zTb := zT4 69 (by decide +kernel) rfl
theorem e_MX9_count : Cond.selects RX9 yX9_count yX9_count ∈ zTb := zT4 70 (by decide +kernel) rfl
abbrev MX9_tape : zM := (yX9_tape, cX9_tape, 4, (Option.some FieldType.int))
theorem k_MX9_tape : Cond.code yX9_tape cX9_tape 4 (Option.some FieldType.int) ∈ zTb := zT4 75 rfl rfl
theorem n_MX9_tape : Cond.instanceMethod yX9_tape ∈ zTb := zT4 73 (by decide +kernel) rfl
theorem e_MX9_tape : Cond.selects RX9 yX9_tape yX9_tape ∈ zTb := zT4 74 (by decide +kernel) rfl
abbrev MX8_become : zM := (yX8_become, cX8_become, 5, (Option.some FieldType.int))
theorem k_MX8_become : Cond.code yX8_become cX8_become 5 (Option.some FieldType.int) ∈ zTb := zT4 79 rfl rfl
theorem n_MX8_become : Cond.instanceMethod yX8_become ∈ zTb := zT4 77 (by decide +kernel) rfl
theorem e_MX8_become : Cond.selects RX8 yX8_become yX8_become ∈ zTb := zT4 78 (by decide +kernel) rfl
abbrev MX9_item : zM := (yX9_item, cX9_item, 5, (Option.some FieldType.int))
theorem k_MX9_item : Cond.code yX9_item cX9_item 5 (Option.some FieldType.int) ∈ zTb := zT4 83 rfl rfl
theorem n_MX9_item : Cond.instanceMethod yX9_item ∈ zTb := zT4 81 (by decide +kernel) rfl
theorem e_MX9_item : Cond.selects RX9 yX9_item yX9_item ∈ zTb := zT4 82 (by decide +kernel) rfl
abbrev MX8_hasItem : zM := (yX8_hasItem, cX8_hasItem, 3, (Option.some FieldType.boolean))
theorem k_MX8_hasItem : Cond.code yX8_hasItem cX8_hasItem 3 (Option.some FieldType.boolean) ∈ zTb := zT4 87 rfl rfl
theorem n_MX8_hasItem : Cond.instanceMethod yX8_hasItem ∈ zTb := zT4 85 (by decide +kernel) rfl
theorem e_MX8_hasItem : Cond.selects RX8 yX8_hasItem yX8_hasItem ∈ zTb := zT4 86 (by decide +kernel) rfl
abbrev MX8_put : zM := (yX8_put, cX8_put, 5, (Option.some FieldType.int))
theorem k_MX8_put : Cond.code yX8_put cX8_put 5 (Option.some FieldType.int) ∈ zTb := zT4 91 rfl rfl
theorem n_MX8_put : Cond.instanceMethod yX8_put ∈ zTb := zT4 89 (by decide +kernel) rfl
theorem e_MX8_put : Cond.selects RX8 yX8_put yX8_put ∈ zTb := zT4 90 (by decide +kernel) rfl
abbrev MX8_cut : zM := (yX8_cut, cX8_cut, 3, (Option.some FieldType.long))
theorem k_MX8_cut : Cond.code yX8_cut cX8_cut 3 (Option.some FieldType.long) ∈ zTb := zT4 94 rfl rfl
theorem s_MX8_cut : Cond.static yX8_cut ∈ zTb := zT4 93 (by decide +kernel) rfl
abbrev MX9_peek : zM := (yX9_peek, cX9_peek, 3, (Option.some FieldType.long))
theorem k_MX9_peek : Cond.code yX9_peek cX9_peek 3 (Option.some FieldType.long) ∈ zTb := zT4 98 rfl rfl
theorem n_MX9_peek : Cond.instanceMethod yX9_peek ∈ zTb := zT4 96 (by decide +kernel) rfl
theorem e_MX9_peek : Cond.selects RX9 yX9_peek yX9_peek ∈ zTb := zT4 97 (by decide +kernel) rfl
abbrev MX9_shift : zM := (yX9_shift, cX9_shift, 6, (Option.some FieldType.int))
theorem k_MX9_shift : Cond.code yX9_shift cX9_shift 6 (Option.some FieldType.int) ∈ zTb := zT4 102 rfl rfl
theorem n_MX9_shift : Cond.instanceMethod yX9_shift ∈ zTb := zT4 100 (by decide +kernel) rfl
theorem e_MX9_shift : Cond.selects RX9 yX9_shift yX9_shift ∈ zTb := zT4 101 (by decide +kernel) rfl
abbrev MX8_isAlike : zM := (yX8_isAlike, cX8_isAlike, 3, (Option.some FieldType.boolean))
theorem k_MX8_isAlike : Cond.code yX8_isAlike cX8_isAlike 3 (Option.some FieldType.boolean) ∈ zTb := zT4 106 rfl rfl
theorem n_MX8_isAlike : Cond.instanceMethod yX8_isAlike ∈ zTb := zT4 104 (by decide +kernel) rfl
theorem e_MX8_isAlike : Cond.selects RX8 yX8_isAlike yX8_isAlike ∈ zTb := zT4 105 (by decide +kernel) rfl
abbrev MX8_hasItems : zM := (yX8_hasItems, cX8_hasItems, 4, (Option.some FieldType.boolean))
theorem k_MX8_hasItems : Cond.code yX8_hasItems cX8_hasItems 4 (Option.some FieldType.boolean) ∈ zTb := zT4 110 rfl rfl
theorem n_MX8_hasItems : Cond.instanceMethod yX8_hasItems ∈ zTb := zT4 108 (by decide +kernel) rfl
theorem e_MX8_hasItems : Cond.selects RX8 yX8_hasItems yX8_hasItems ∈ zTb := zT4 109 (by decide +kernel) rfl
abbrev MX8_move : zM := (yX8_move, cX8_move, 6, (Option.some FieldType.int))
theorem k_MX8_move : Cond.code yX8_move cX8_move 6 (Option.some FieldType.int) ∈ zTb := zT4 114 rfl rfl
theorem n_MX8_move : Cond.instanceMethod yX8_move ∈ zTb := zT4 112 (by decide +kernel) rfl
theorem e_MX8_move : Cond.selects RX8 yX8_move yX8_move ∈ zTb := zT4 113 (by decide +kernel) rfl
abbrev MX10_init : zM := (yX10_init, cX10_init, 2, (none : Option FieldType))
theorem k_MX10_init : Cond.code yX10_init cX10_init 2 (none : Option FieldType) ∈ zTb := zT4 120 rfl rfl
theorem n_MX10_init : Cond.instanceMethod yX10_init ∈ zTb := zT4 119 (by decide +kernel) rfl
abbrev MX10_size : zM := (yX10_size, cX10_size, 4, (Option.some FieldType.int))
theorem k_MX10_size : Cond.code yX10_size cX10_size 4 (Option.some FieldType.int) ∈ zTb := zT4 125 rfl rfl
theorem n_MX10_size : Cond.instanceMethod yX10_size ∈ zTb := zT4 123 (by decide +kernel) rfl
theorem e_MX10_size : Cond.selects RX10 yX10_size yX10_size ∈ zTb := zT4 124 (by decide +kernel) rfl
abbrev MX10_within : zM := (yX10_within, cX10_within, 6, (Option.some FieldType.boolean))
theorem k_MX10_within : Cond.code yX10_within cX10_within 6 (Option.some FieldType.boolean) ∈ zTb := zT4 129 rfl rfl
theorem s_MX10_within : Cond.static yX10_within ∈ zTb := zT4 128 (by decide +kernel) rfl
abbrev MX10_begin : zM := (yX10_begin, cX10_begin, 3, (Option.some FieldType.int))
theorem k_MX10_begin : Cond.code yX10_begin cX10_begin 3 (Option.some FieldType.int) ∈ zTb := zT4 133 rfl rfl
theorem n_MX10_begin : Cond.instanceMethod yX10_begin ∈ zTb := zT4 131 (by decide +kernel) rfl
theorem e_MX10_begin : Cond.selects RX10 yX10_begin yX10_begin ∈ zTb := zT4 132 (by decide +kernel) rfl
abbrev MX10_tell : zM := (yX10_tell, cX10_tell, 5, (Option.some FieldType.int))
theorem k_MX10_tell : Cond.code yX10_tell cX10_tell 5 (Option.some FieldType.int) ∈ zTb := zT4 215 rfl rfl
theorem n_MX10_tell : Cond.instanceMethod yX10_tell ∈ zTb := zT4 213 (by decide +kernel) rfl
theorem e_MX10_tell : Cond.selects RX10 yX10_tell yX10_tell ∈ zTb := zT4 214 (by decide +kernel) rfl
abbrev MX10_isCell : zM := (yX10_isCell, cX10_isCell, 3, (Option.some FieldType.boolean))
theorem k_MX10_isCell : Cond.code yX10_isCell cX10_isCell 3 (Option.some FieldType.boolean) ∈ zTb := zT4 219 rfl rfl
theorem n_MX10_isCell : Cond.instanceMethod yX10_isCell ∈ zTb := zT4 218 (by decide +kernel) rfl
theorem e_MX10_isCell : Cond.selects RX10 yX10_isCell yX10_isCell ∈ zTb := zTs (q := lw_privs.getD 26 (⟨"", "", ""⟩, 0)) 26 rfl
abbrev MX10_mark : zM := (yX10_mark, cX10_mark, 4, (Option.some FieldType.int))
theorem k_MX10_mark : Cond.code yX10_mark cX10_mark 4 (Option.some FieldType.int) ∈ zTb := zT4 224 rfl rfl
theorem n_MX10_mark : Cond.instanceMethod yX10_mark ∈ zTb := zT4 222 (by decide +kernel) rfl
theorem e_MX10_mark : Cond.selects RX10 yX10_mark yX10_mark ∈ zTb := zT4 223 (by decide +kernel) rfl
abbrev MX10_becomes : zM := (yX10_becomes, cX10_becomes, 4, (Option.some FieldType.int))
theorem k_MX10_becomes : Cond.code yX10_becomes cX10_becomes 4 (Option.some FieldType.int) ∈ zTb := zT4 229 rfl rfl
theorem n_MX10_becomes : Cond.instanceMethod yX10_becomes ∈ zTb := zT4 228 (by decide +kernel) rfl
theorem e_MX10_becomes : Cond.selects RX10 yX10_becomes yX10_becomes ∈ zTb := zTs (q := lw_privs.getD 27 (⟨"", "", ""⟩, 0)) 27 rfl
abbrev MX10_margin : zM := (yX10_margin, cX10_margin, 4, (Option.some FieldType.int))
theorem k_MX10_margin : Cond.code yX10_margin cX10_margin 4 (Option.some FieldType.int) ∈ zTb := zT4 233 rfl rfl
theorem n_MX10_margin : Cond.instanceMethod yX10_margin ∈ zTb := zT4 231 (by decide +kernel) rfl
theorem e_MX10_margin : Cond.selects RX10 yX10_margin yX10_margin ∈ zTb := zT4 232 (by decide +kernel) rfl
abbrev MX10_isLine : zM := (yX10_isLine, cX10_isLine, 3, (Option.some FieldType.boolean))
theorem k_MX10_isLine : Cond.code yX10_isLine cX10_isLine 3 (Option.some FieldType.boolean) ∈ zTb := zT4 237 rfl rfl
theorem n_MX10_isLine : Cond.instanceMethod yX10_isLine ∈ zTb := zT4 236 (by decide +kernel) rfl
theorem e_MX10_isLine : Cond.selects RX10 yX10_isLine yX10_isLine ∈ zTb := zTs (q := lw_privs.getD 28 (⟨"", "", ""⟩, 0)) 28 rfl
abbrev MX10_linesOf : zM := (yX10_linesOf, cX10_linesOf, 2, (Option.some FieldType.int))
theorem k_MX10_linesOf : Cond.code yX10_linesOf cX10_linesOf 2 (Option.some FieldType.int) ∈ zTb := zT5 1 rfl rfl
theorem n_MX10_linesOf : Cond.instanceMethod yX10_linesOf ∈ zTb := zT5 0 (by decide +kernel) rfl
theorem e_MX10_linesOf : Cond.selects RX10 yX10_linesOf yX10_linesOf ∈ zTb := zTs (q := lw_privs.getD 29 (⟨"", "", ""⟩, 0)) 29 rfl
abbrev MX10_three : zM := (yX10_three, cX10_three, 2, (Option.some FieldType.int))
theorem k_MX10_three : Cond.code yX10_three cX10_three 2 (Option.some FieldType.int) ∈ zTb := zT5 6 rfl rfl
theorem n_MX10_three : Cond.instanceMethod yX10_three ∈ zTb := zT5 4 (by decide +kernel) rfl
theorem e_MX10_three : Cond.selects RX10 yX10_three yX10_three ∈ zTb := zT5 5 (by decide +kernel) rfl
abbrev MX10_of : zM := (yX10_of, cX10_of, 4, (Option.some FieldType.int))
theorem k_MX10_of : Cond.code yX10_of cX10_of 4 (Option.some FieldType.int) ∈ zTb := zT5 10 rfl rfl
theorem n_MX10_of : Cond.instanceMethod yX10_of ∈ zTb := zT5 8 (by decide +kernel) rfl
theorem e_MX10_of : Cond.selects RX10 yX10_of yX10_of ∈ zTb := zT5 9 (by decide +kernel) rfl
abbrev MX10_marginOf : zM := (yX10_marginOf, cX10_marginOf, 3, (Option.some FieldType.int))
theorem k_MX10_marginOf : Cond.code yX10_marginOf cX10_marginOf 3 (Option.some FieldType.int) ∈ zTb := zT5 14 rfl rfl
theorem n_MX10_marginOf : Cond.instanceMethod yX10_marginOf ∈ zTb := zT5 12 (by decide +kernel) rfl
theorem e_MX10_marginOf : Cond.selects RX10 yX10_marginOf yX10_marginOf ∈ zTb := zT5 13 (by decide +kernel) rfl
abbrev MX10_marginAt : zM := (yX10_marginAt, cX10_marginAt, 3, (Option.some FieldType.int))
theorem k_MX10_marginAt : Cond.code yX10_marginAt cX10_marginAt 3 (Option.some FieldType.int) ∈ zTb := zT5 18 rfl rfl
theorem n_MX10_marginAt : Cond.instanceMethod yX10_marginAt ∈ zTb := zT5 17 (by decide +kernel) rfl
theorem e_MX10_marginAt : Cond.selects RX10 yX10_marginAt yX10_marginAt ∈ zTb := zTs (q := lw_privs.getD 30 (⟨"", "", ""⟩, 0)) 30 rfl
abbrev MX10_feed : zM := (yX10_feed, cX10_feed, 2, (Option.some FieldType.int))
theorem k_MX10_feed : Cond.code yX10_feed cX10_feed 2 (Option.some FieldType.int) ∈ zTb := zT5 22 rfl rfl
theorem n_MX10_feed : Cond.instanceMethod yX10_feed ∈ zTb := zT5 20 (by decide +kernel) rfl
theorem e_MX10_feed : Cond.selects RX10 yX10_feed yX10_feed ∈ zTb := zT5 21 (by decide +kernel) rfl
abbrev MX10_read : zM := (yX10_read, cX10_read, 4, (Option.some FieldType.int))
theorem k_MX10_read : Cond.code yX10_read cX10_read 4 (Option.some FieldType.int) ∈ zTb := zT5 27 rfl rfl
theorem n_MX10_read : Cond.instanceMethod yX10_read ∈ zTb := zT5 25 (by decide +kernel) rfl
theorem e_MX10_read : Cond.selects RX10 yX10_read yX10_read ∈ zTb := zT5 26 (by decide +kernel) rfl
abbrev MX10_readsAll : zM := (yX10_readsAll, cX10_readsAll, 3, (Option.some FieldType.int))
theorem k_MX10_readsAll : Cond.code yX10_readsAll cX10_readsAll 3 (Option.some FieldType.int) ∈ zTb := zT5 31 rfl rfl
theorem n_MX10_readsAll : Cond.instanceMethod yX10_readsAll ∈ zTb := zT5 30 (by decide +kernel) rfl
theorem e_MX10_readsAll : Cond.selects RX10 yX10_readsAll yX10_readsAll ∈ zTb := zTs (q := lw_privs.getD 31 (⟨"", "", ""⟩, 0)) 31 rfl
abbrev MX10_readsClause : zM := (yX10_readsClause, cX10_readsClause, 6, (Option.some FieldType.int))
theorem k_MX10_readsClause : Cond.code yX10_readsClause cX10_readsClause 6 (Option.some FieldType.int) ∈ zTb := zT5 35 rfl rfl
theorem n_MX10_readsClause : Cond.instanceMethod yX10_readsClause ∈ zTb := zT5 34 (by decide +kernel) rfl
theorem e_MX10_readsClause : Cond.selects RX10 yX10_readsClause yX10_readsClause ∈ zTb := zTs (q := lw_privs.getD 32 (⟨"", "", ""⟩, 0)) 32 rfl
abbrev MX10_isKind : zM := (yX10_isKind, cX10_isKind, 1, (Option.some FieldType.boolean))
theorem k_MX10_isKind : Cond.code yX10_isKind cX10_isKind 1 (Option.some FieldType.boolean) ∈ zTb := zT5 38 rfl rfl
theorem s_MX10_isKind : Cond.static yX10_isKind ∈ zTb := zT5 37 (by decide +kernel) rfl
abbrev MX10_digitsOf : zM := (yX10_digitsOf, cX10_digitsOf, 1, (Option.some FieldType.int))
theorem k_MX10_digitsOf : Cond.code yX10_digitsOf cX10_digitsOf 1 (Option.some FieldType.int) ∈ zTb := zT5 41 rfl rfl
theorem s_MX10_digitsOf : Cond.static yX10_digitsOf ∈ zTb := zT5 40 (by decide +kernel) rfl
abbrev MX10_isDigit : zM := (yX10_isDigit, cX10_isDigit, 2, (Option.some FieldType.boolean))
theorem k_MX10_isDigit : Cond.code yX10_isDigit cX10_isDigit 2 (Option.some FieldType.boolean) ∈ zTb := zT5 45 rfl rfl
theorem n_MX10_isDigit : Cond.instanceMethod yX10_isDigit ∈ zTb := zT5 44 (by decide +kernel) rfl
theorem e_MX10_isDigit : Cond.selects RX10 yX10_isDigit yX10_isDigit ∈ zTb := zTs (q := lw_privs.getD 33 (⟨"", "", ""⟩, 0)) 33 rfl
abbrev MX10_does : zM := (yX10_does, cX10_does, 5, (Option.some FieldType.boolean))
theorem k_MX10_does : Cond.code yX10_does cX10_does 5 (Option.some FieldType.boolean) ∈ zTb := zT5 51 rfl rfl
theorem n_MX10_does : Cond.instanceMethod yX10_does ∈ zTb := zT5 50 (by decide +kernel) rfl
theorem e_MX10_does : Cond.selects RX10 yX10_does yX10_does ∈ zTb := zTs (q := lw_privs.getD 34 (⟨"", "", ""⟩, 0)) 34 rfl
abbrev MX10_fit : zM := (yX10_fit, cX10_fit, 2, (Option.some FieldType.int))
theorem k_MX10_fit : Cond.code yX10_fit cX10_fit 2 (Option.some FieldType.int) ∈ zTb := zT5 58 rfl rfl
theorem n_MX10_fit : Cond.instanceMethod yX10_fit ∈ zTb := zT5 56 (by decide +kernel) rfl
theorem e_MX10_fit : Cond.selects RX10 yX10_fit yX10_fit ∈ zTb := zT5 57 (by decide +kernel) rfl
abbrev MX10_fits : zM := (yX10_fits, cX10_fits, 4, (Option.some FieldType.int))
theorem k_MX10_fits : Cond.code yX10_fits cX10_fits 4 (Option.some FieldType.int) ∈ zTb := zT5 62 rfl rfl
theorem n_MX10_fits : Cond.instanceMethod yX10_fits ∈ zTb := zT5 61 (by decide +kernel) rfl
theorem e_MX10_fits : Cond.selects RX10 yX10_fits yX10_fits ∈ zTb := zTs (q := lw_privs.getD 35 (⟨"", "", ""⟩, 0)) 35 rfl
abbrev MX10_sums : zM := (yX10_sums, cX10_sums, 5, (Option.some FieldType.boolean))
theorem k_MX10_sums : Cond.code yX10_sums cX10_sums 5 (Option.some FieldType.boolean) ∈ zTb := zT5 66 rfl rfl
theorem n_MX10_sums : Cond.instanceMethod yX10_sums ∈ zTb := zT5 65 (by decide +kernel) rfl
theorem e_MX10_sums : Cond.selects RX10 yX10_sums yX10_sums ∈ zTb := zTs (q := lw_privs.getD 36 (⟨"", "", ""⟩, 0)) 36 rfl
abbrev MX10_isIn : zM := (yX10_isIn, cX10_isIn, 4, (Option.some FieldType.boolean))
theorem k_MX10_isIn : Cond.code yX10_isIn cX10_isIn 4 (Option.some FieldType.boolean) ∈ zTb := zT5 70 rfl rfl
theorem n_MX10_isIn : Cond.instanceMethod yX10_isIn ∈ zTb := zT5 69 (by decide +kernel) rfl
theorem e_MX10_isIn : Cond.selects RX10 yX10_isIn yX10_isIn ∈ zTb := zTs (q := lw_privs.getD 37 (⟨"", "", ""⟩, 0)) 37 rfl
abbrev MX10_isHere : zM := (yX10_isHere, cX10_isHere, 2, (Option.some FieldType.boolean))
theorem k_MX10_isHere : Cond.code yX10_isHere cX10_isHere 2 (Option.some FieldType.boolean) ∈ zTb := zT5 74 rfl rfl
theorem n_MX10_isHere : Cond.instanceMethod yX10_isHere ∈ zTb := zT5 73 (by decide +kernel) rfl
theorem e_MX10_isHere : Cond.selects RX10 yX10_isHere yX10_isHere ∈ zTb := zTs (q := lw_privs.getD 38 (⟨"", "", ""⟩, 0)) 38 rfl
abbrev MX10_adds : zM := (yX10_adds, cX10_adds, 5, (Option.some FieldType.boolean))
theorem k_MX10_adds : Cond.code yX10_adds cX10_adds 5 (Option.some FieldType.boolean) ∈ zTb := zT5 78 rfl rfl
theorem n_MX10_adds : Cond.instanceMethod yX10_adds ∈ zTb := zT5 77 (by decide +kernel) rfl
theorem e_MX10_adds : Cond.selects RX10 yX10_adds yX10_adds ∈ zTb := zTs (q := lw_privs.getD 39 (⟨"", "", ""⟩, 0)) 39 rfl
abbrev MX10_worksOut : zM := (yX10_worksOut, cX10_worksOut, 7, (Option.some FieldType.boolean))
theorem k_MX10_worksOut : Cond.code yX10_worksOut cX10_worksOut 7 (Option.some FieldType.boolean) ∈ zTb := zT5 82 rfl rfl
theorem n_MX10_worksOut : Cond.instanceMethod yX10_worksOut ∈ zTb := zT5 81 (by decide +kernel) rfl
theorem e_MX10_worksOut : Cond.selects RX10 yX10_worksOut yX10_worksOut ∈ zTb := zTs (q := lw_privs.getD 40 (⟨"", "", ""⟩, 0)) 40 rfl
abbrev MX10_divisor : zM := (yX10_divisor, cX10_divisor, 10, (Option.some FieldType.long))
theorem k_MX10_divisor : Cond.code yX10_divisor cX10_divisor 10 (Option.some FieldType.long) ∈ zTb := zT5 85 rfl rfl
theorem s_MX10_divisor : Cond.static yX10_divisor ∈ zTb := zT5 84 (by decide +kernel) rfl
abbrev MX10_fitsLine : zM := (yX10_fitsLine, cX10_fitsLine, 8, (Option.some FieldType.boolean))
theorem k_MX10_fitsLine : Cond.code yX10_fitsLine cX10_fitsLine 8 (Option.some FieldType.boolean) ∈ zTb := zT5 90 rfl rfl
theorem n_MX10_fitsLine : Cond.instanceMethod yX10_fitsLine ∈ zTb := zT5 89 (by decide +kernel) rfl
theorem e_MX10_fitsLine : Cond.selects RX10 yX10_fitsLine yX10_fitsLine ∈ zTb := zTs (q := lw_privs.getD 41 (⟨"", "", ""⟩, 0)) 41 rfl
abbrev MX10_rounds : zM := (yX10_rounds, cX10_rounds, 3, (Option.some FieldType.int))
theorem k_MX10_rounds : Cond.code yX10_rounds cX10_rounds 3 (Option.some FieldType.int) ∈ zTb := zT5 94 rfl rfl
theorem n_MX10_rounds : Cond.instanceMethod yX10_rounds ∈ zTb := zT5 92 (by decide +kernel) rfl
theorem e_MX10_rounds : Cond.selects RX10 yX10_rounds yX10_rounds ∈ zTb := zT5 93 (by decide +kernel) rfl
abbrev MX10_goesRound : zM := (yX10_goesRound, cX10_goesRound, 4, (Option.some FieldType.boolean))
theorem k_MX10_goesRound : Cond.code yX10_goesRound cX10_goesRound 4 (Option.some FieldType.boolean) ∈ zTb := zT5 98 rfl rfl
theorem n_MX10_goesRound : Cond.instanceMethod yX10_goesRound ∈ zTb := zT5 97 (by decide +kernel) rfl
theorem e_MX10_goesRound : Cond.selects RX10 yX10_goesRound yX10_goesRound ∈ zTb := zTs (q := lw_privs.getD 42 (⟨"", "", ""⟩, 0)) 42 rfl
abbrev MX10_cell : zM := (yX10_cell, cX10_cell, 4, (Option.some FieldType.long))
theorem k_MX10_cell : Cond.code yX10_cell cX10_cell 4 (Option.some FieldType.long) ∈ zTb := zT5 103 rfl rfl
theorem n_MX10_cell : Cond.instanceMethod yX10_cell ∈ zTb := zT5 101 (by decide +kernel) rfl
theorem e_MX10_cell : Cond.selects RX10 yX10_cell yX10_cell ∈ zTb := zT5 102 (by decide +kernel) rfl
abbrev MX10_isPart : zM := (yX10_isPart, cX10_isPart, 1, (Option.some FieldType.boolean))
theorem k_MX10_isPart : Cond.code yX10_isPart cX10_isPart 1 (Option.some FieldType.boolean) ∈ zTb := zT5 106 rfl rfl
theorem s_MX10_isPart : Cond.static yX10_isPart ∈ zTb := zT5 105 (by decide +kernel) rfl
abbrev MX10_sum : zM := (yX10_sum, cX10_sum, 4, (Option.some FieldType.long))
theorem k_MX10_sum : Cond.code yX10_sum cX10_sum 4 (Option.some FieldType.long) ∈ zTb := zT5 111 rfl rfl
theorem n_MX10_sum : Cond.instanceMethod yX10_sum ∈ zTb := zT5 109 (by decide +kernel) rfl
theorem e_MX10_sum : Cond.selects RX10 yX10_sum yX10_sum ∈ zTb := zT5 110 (by decide +kernel) rfl
abbrev MX10_gap : zM := (yX10_gap, cX10_gap, 4, (Option.some FieldType.long))
theorem k_MX10_gap : Cond.code yX10_gap cX10_gap 4 (Option.some FieldType.long) ∈ zTb := zT5 115 rfl rfl
theorem n_MX10_gap : Cond.instanceMethod yX10_gap ∈ zTb := zT5 113 (by decide +kernel) rfl
theorem e_MX10_gap : Cond.selects RX10 yX10_gap yX10_gap ∈ zTb := zT5 114 (by decide +kernel) rfl
abbrev MX10_gaps : zM := (yX10_gaps, cX10_gaps, 4, (none : Option FieldType))
theorem k_MX10_gaps : Cond.code yX10_gaps cX10_gaps 4 (none : Option FieldType) ∈ zTb := zT5 119 rfl rfl
theorem n_MX10_gaps : Cond.instanceMethod yX10_gaps ∈ zTb := zT5 118 (by decide +kernel) rfl
theorem e_MX10_gaps : Cond.selects RX10 yX10_gaps yX10_gaps ∈ zTb := zTs (q := lw_privs.getD 43 (⟨"", "", ""⟩, 0)) 43 rfl
abbrev MX10_farthest : zM := (yX10_farthest, cX10_farthest, 4, (Option.some FieldType.int))
theorem k_MX10_farthest : Cond.code yX10_farthest cX10_farthest 4 (Option.some FieldType.int) ∈ zTb := zT5 123 rfl rfl
theorem n_MX10_farthest : Cond.instanceMethod yX10_farthest ∈ zTb := zT5 121 (by decide +kernel) rfl
theorem e_MX10_farthest : Cond.selects RX10 yX10_farthest yX10_farthest ∈ zTb := zT5 122 (by decide +kernel) rfl
abbrev MX10_told : zM := (yX10_told, cX10_told, 2, (Option.some FieldType.int))
theorem k_MX10_told : Cond.code yX10_told cX10_told 2 (Option.some FieldType.int) ∈ zTb := zT5 127 rfl rfl
theorem n_MX10_told : Cond.instanceMethod yX10_told ∈ zTb := zT5 125 (by decide +kernel) rfl
theorem e_MX10_told : Cond.selects RX10 yX10_told yX10_told ∈ zTb := zT5 126 (by decide +kernel) rfl
abbrev MX10_settled : zM := (yX10_settled, cX10_settled, 2, (Option.some FieldType.int))
theorem k_MX10_settled : Cond.code yX10_settled cX10_settled 2 (Option.some FieldType.int) ∈ zTb := zT5 131 rfl rfl
theorem n_MX10_settled : Cond.instanceMethod yX10_settled ∈ zTb := zT5 130 (by decide +kernel) rfl
theorem e_MX10_settled : Cond.selects RX10 yX10_settled yX10_settled ∈ zTb := zTs (q := lw_privs.getD 44 (⟨"", "", ""⟩, 0)) 44 rfl
abbrev MX10_possible : zM := (yX10_possible, cX10_possible, 1, (Option.some FieldType.int))
theorem k_MX10_possible : Cond.code yX10_possible cX10_possible 1 (Option.some FieldType.int) ∈ zTb := zT5 136 rfl rfl
theorem n_MX10_possible : Cond.instanceMethod yX10_possible ∈ zTb := zT5 135 (by decide +kernel) rfl
theorem e_MX10_possible : Cond.selects RX10 yX10_possible yX10_possible ∈ zTb := zTs (q := lw_privs.getD 45 (⟨"", "", ""⟩, 0)) 45 rfl
abbrev MX10_surplus : zM := (yX10_surplus, cX10_surplus, 3, (Option.some FieldType.int))
theorem k_MX10_surplus : Cond.code yX10_surplus cX10_surplus 3 (Option.some FieldType.int) ∈ zTb := zT5 140 rfl rfl
theorem n_MX10_surplus : Cond.instanceMethod yX10_surplus ∈ zTb := zT5 139 (by decide +kernel) rfl
theorem e_MX10_surplus : Cond.selects RX10 yX10_surplus yX10_surplus ∈ zTb := zTs (q := lw_privs.getD 46 (⟨"", "", ""⟩, 0)) 46 rfl
abbrev MX10_rowsTogether : zM := (yX10_rowsTogether, cX10_rowsTogether, 4, (Option.some FieldType.int))
theorem k_MX10_rowsTogether : Cond.code yX10_rowsTogether cX10_rowsTogether 4 (Option.some FieldType.int) ∈ zTb := zT5 144 rfl rfl
theorem n_MX10_rowsTogether : Cond.instanceMethod yX10_rowsTogether ∈ zTb := zT5 143 (by decide +kernel) rfl
theorem e_MX10_rowsTogether : Cond.selects RX10 yX10_rowsTogether yX10_rowsTogether ∈ zTb := zTs (q := lw_privs.getD 47 (⟨"", "", ""⟩, 0)) 47 rfl
abbrev MX10_forbids : zM := (yX10_forbids, cX10_forbids, 3, (Option.some FieldType.int))
theorem k_MX10_forbids : Cond.code yX10_forbids cX10_forbids 3 (Option.some FieldType.int) ∈ zTb := zT5 148 rfl rfl
theorem n_MX10_forbids : Cond.instanceMethod yX10_forbids ∈ zTb := zT5 147 (by decide +kernel) rfl
theorem e_MX10_forbids : Cond.selects RX10 yX10_forbids yX10_forbids ∈ zTb := zTs (q := lw_privs.getD 48 (⟨"", "", ""⟩, 0)) 48 rfl
abbrev MX10_reached : zM := (yX10_reached, cX10_reached, 6, (Option.some FieldType.int))
theorem k_MX10_reached : Cond.code yX10_reached cX10_reached 6 (Option.some FieldType.int) ∈ zTb := zT5 152 rfl rfl
theorem n_MX10_reached : Cond.instanceMethod yX10_reached ∈ zTb := zT5 151 (by decide +kernel) rfl
theorem e_MX10_reached : Cond.selects RX10 yX10_reached yX10_reached ∈ zTb := zTs (q := lw_privs.getD 49 (⟨"", "", ""⟩, 0)) 49 rfl
abbrev MX10_sizeOf : zM := (yX10_sizeOf, cX10_sizeOf, 1, (Option.some FieldType.int))
theorem k_MX10_sizeOf : Cond.code yX10_sizeOf cX10_sizeOf 1 (Option.some FieldType.int) ∈ zTb := zT5 155 rfl rfl
theorem s_MX10_sizeOf : Cond.static yX10_sizeOf ∈ zTb := zT5 154 (by decide +kernel) rfl
abbrev MX10_allCounts : zM := (yX10_allCounts, cX10_allCounts, 3, (Option.some FieldType.int))
theorem k_MX10_allCounts : Cond.code yX10_allCounts cX10_allCounts 3 (Option.some FieldType.int) ∈ zTb := zT5 159 rfl rfl
theorem n_MX10_allCounts : Cond.instanceMethod yX10_allCounts ∈ zTb := zT5 158 (by decide +kernel) rfl
theorem e_MX10_allCounts : Cond.selects RX10 yX10_allCounts yX10_allCounts ∈ zTb := zTs (q := lw_privs.getD 50 (⟨"", "", ""⟩, 0)) 50 rfl
abbrev MX10_rounded : zM := (yX10_rounded, cX10_rounded, 3, (Option.some FieldType.int))
theorem k_MX10_rounded : Cond.code yX10_rounded cX10_rounded 3 (Option.some FieldType.int) ∈ zTb := zT5 163 rfl rfl
theorem n_MX10_rounded : Cond.instanceMethod yX10_rounded ∈ zTb := zT5 161 (by decide +kernel) rfl
theorem e_MX10_rounded : Cond.selects RX10 yX10_rounded yX10_rounded ∈ zTb := zT5 162 (by decide +kernel) rfl
abbrev MX10_isRounded : zM := (yX10_isRounded, cX10_isRounded, 1, (Option.some FieldType.boolean))
theorem k_MX10_isRounded : Cond.code yX10_isRounded cX10_isRounded 1 (Option.some FieldType.boolean) ∈ zTb := zT5 167 rfl rfl
theorem n_MX10_isRounded : Cond.instanceMethod yX10_isRounded ∈ zTb := zT5 166 (by decide +kernel) rfl
theorem e_MX10_isRounded : Cond.selects RX10 yX10_isRounded yX10_isRounded ∈ zTb := zTs (q := lw_privs.getD 51 (⟨"", "", ""⟩, 0)) 51 rfl
abbrev MX10_hasLimits : zM := (yX10_hasLimits, cX10_hasLimits, 6, (Option.some FieldType.boolean))
theorem k_MX10_hasLimits : Cond.code yX10_hasLimits cX10_hasLimits 6 (Option.some FieldType.boolean) ∈ zTb := zT5 171 rfl rfl
theorem n_MX10_hasLimits : Cond.instanceMethod yX10_hasLimits ∈ zTb := zT5 170 (by decide +kernel) rfl
theorem e_MX10_hasLimits : Cond.selects RX10 yX10_hasLimits yX10_hasLimits ∈ zTb := zTs (q := lw_privs.getD 52 (⟨"", "", ""⟩, 0)) 52 rfl
abbrev MX10_down : zM := (yX10_down, cX10_down, 1, (Option.some FieldType.int))
theorem k_MX10_down : Cond.code yX10_down cX10_down 1 (Option.some FieldType.int) ∈ zTb := zT5 175 rfl rfl
theorem n_MX10_down : Cond.instanceMethod yX10_down ∈ zTb := zT5 174 (by decide +kernel) rfl
theorem e_MX10_down : Cond.selects RX10 yX10_down yX10_down ∈ zTb := zTs (q := lw_privs.getD 53 (⟨"", "", ""⟩, 0)) 53 rfl
abbrev MX10_up : zM := (yX10_up, cX10_up, 1, (Option.some FieldType.int))
theorem k_MX10_up : Cond.code yX10_up cX10_up 1 (Option.some FieldType.int) ∈ zTb := zT5 179 rfl rfl
theorem n_MX10_up : Cond.instanceMethod yX10_up ∈ zTb := zT5 178 (by decide +kernel) rfl
theorem e_MX10_up : Cond.selects RX10 yX10_up yX10_up ∈ zTb := zTs (q := lw_privs.getD 54 (⟨"", "", ""⟩, 0)) 54 rfl
abbrev MX10_goesOn : zM := (yX10_goesOn, cX10_goesOn, 3, (Option.some FieldType.boolean))
theorem k_MX10_goesOn : Cond.code yX10_goesOn cX10_goesOn 3 (Option.some FieldType.boolean) ∈ zTb := zT5 183 rfl rfl
theorem n_MX10_goesOn : Cond.instanceMethod yX10_goesOn ∈ zTb := zT5 182 (by decide +kernel) rfl
theorem e_MX10_goesOn : Cond.selects RX10 yX10_goesOn yX10_goesOn ∈ zTb := zTs (q := lw_privs.getD 55 (⟨"", "", ""⟩, 0)) 55 rfl
abbrev MX10_fitsWhole : zM := (yX10_fitsWhole, cX10_fitsWhole, 5, (Option.some FieldType.boolean))
theorem k_MX10_fitsWhole : Cond.code yX10_fitsWhole cX10_fitsWhole 5 (Option.some FieldType.boolean) ∈ zTb := zT5 187 rfl rfl
theorem n_MX10_fitsWhole : Cond.instanceMethod yX10_fitsWhole ∈ zTb := zT5 186 (by decide +kernel) rfl
theorem e_MX10_fitsWhole : Cond.selects RX10 yX10_fitsWhole yX10_fitsWhole ∈ zTb := zTs (q := lw_privs.getD 56 (⟨"", "", ""⟩, 0)) 56 rfl
abbrev MX10_togetherOf : zM := (yX10_togetherOf, cX10_togetherOf, 5, (Option.some FieldType.int))
theorem k_MX10_togetherOf : Cond.code yX10_togetherOf cX10_togetherOf 5 (Option.some FieldType.int) ∈ zTb := zT5 191 rfl rfl
theorem n_MX10_togetherOf : Cond.instanceMethod yX10_togetherOf ∈ zTb := zT5 190 (by decide +kernel) rfl
theorem e_MX10_togetherOf : Cond.selects RX10 yX10_togetherOf yX10_togetherOf ∈ zTb := zTs (q := lw_privs.getD 57 (⟨"", "", ""⟩, 0)) 57 rfl
abbrev MX10_together : zM := (yX10_together, cX10_together, 3, (Option.some FieldType.int))
theorem k_MX10_together : Cond.code yX10_together cX10_together 3 (Option.some FieldType.int) ∈ zTb := zT5 195 rfl rfl
theorem n_MX10_together : Cond.instanceMethod yX10_together ∈ zTb := zT5 193 (by decide +kernel) rfl
theorem e_MX10_together : Cond.selects RX10 yX10_together yX10_together ∈ zTb := zT5 194 (by decide +kernel) rfl
abbrev MX10_cross : zM := (yX10_cross, cX10_cross, 10, (Option.some FieldType.long))
theorem k_MX10_cross : Cond.code yX10_cross cX10_cross 10 (Option.some FieldType.long) ∈ zTb := zT5 199 rfl rfl
theorem n_MX10_cross : Cond.instanceMethod yX10_cross ∈ zTb := zT5 197 (by decide +kernel) rfl
theorem e_MX10_cross : Cond.selects RX10 yX10_cross yX10_cross ∈ zTb := zT5 198 (by decide +kernel) rfl
abbrev MX10_ratio : zM := (yX10_ratio, cX10_ratio, 4, (none : Option FieldType))
theorem k_MX10_ratio : Cond.code yX10_ratio cX10_ratio 4 (none : Option FieldType) ∈ zTb := zT5 203 rfl rfl
theorem n_MX10_ratio : Cond.instanceMethod yX10_ratio ∈ zTb := zT5 202 (by decide +kernel) rfl
theorem e_MX10_ratio : Cond.selects RX10 yX10_ratio yX10_ratio ∈ zTb := zTs (q := lw_privs.getD 58 (⟨"", "", ""⟩, 0)) 58 rfl
abbrev MX10_product : zM := (yX10_product, cX10_product, 8, (Option.some FieldType.long))
theorem k_MX10_product : Cond.code yX10_product cX10_product 8 (Option.some FieldType.long) ∈ zTb := zT5 206 rfl rfl
theorem s_MX10_product : Cond.static yX10_product ∈ zTb := zT5 205 (by decide +kernel) rfl
abbrev MX10_orders : zM := (yX10_orders, cX10_orders, 10, (Option.some FieldType.long))
theorem k_MX10_orders : Cond.code yX10_orders cX10_orders 10 (Option.some FieldType.long) ∈ zTb := zT5 211 rfl rfl
theorem n_MX10_orders : Cond.instanceMethod yX10_orders ∈ zTb := zT5 209 (by decide +kernel) rfl
theorem e_MX10_orders : Cond.selects RX10 yX10_orders yX10_orders ∈ zTb := zT5 210 (by decide +kernel) rfl
abbrev MX10_rank : zM := (yX10_rank, cX10_rank, 5, (Option.some FieldType.int))
theorem k_MX10_rank : Cond.code yX10_rank cX10_rank 5 (Option.some FieldType.int) ∈ zTb := zT5 215 rfl rfl
theorem n_MX10_rank : Cond.instanceMethod yX10_rank ∈ zTb := zT5 213 (by decide +kernel) rfl
theorem e_MX10_rank : Cond.selects RX10 yX10_rank yX10_rank ∈ zTb := zT5 214 (by decide +kernel) rfl
abbrev MX10_isAhead : zM := (yX10_isAhead, cX10_isAhead, 7, (Option.some FieldType.boolean))
theorem k_MX10_isAhead : Cond.code yX10_isAhead cX10_isAhead 7 (Option.some FieldType.boolean) ∈ zTb := zT5 219 rfl rfl
theorem n_MX10_isAhead : Cond.instanceMethod yX10_isAhead ∈ zTb := zT5 218 (by decide +kernel) rfl
theorem e_MX10_isAhead : Cond.selects RX10 yX10_isAhead yX10_isAhead ∈ zTb := zTs (q := lw_privs.getD 59 (⟨"", "", ""⟩, 0)) 59 rfl
abbrev MX10_see : zM := (yX10_see, cX10_see, 4, (Option.some FieldType.int))
theorem k_MX10_see : Cond.code yX10_see cX10_see 4 (Option.some FieldType.int) ∈ zTb := zT5 223 rfl rfl
theorem n_MX10_see : Cond.instanceMethod yX10_see ∈ zTb := zT5 221 (by decide +kernel) rfl
theorem e_MX10_see : Cond.selects RX10 yX10_see yX10_see ∈ zTb := zT5 222 (by decide +kernel) rfl
abbrev MX10_lists : zM := (yX10_lists, cX10_lists, 7, (Option.some FieldType.int))
theorem k_MX10_lists : Cond.code yX10_lists cX10_lists 7 (Option.some FieldType.int) ∈ zTb := zT5 227 rfl rfl
theorem n_MX10_lists : Cond.instanceMethod yX10_lists ∈ zTb := zT5 226 (by decide +kernel) rfl
theorem e_MX10_lists : Cond.selects RX10 yX10_lists yX10_lists ∈ zTb := zTs (q := lw_privs.getD 60 (⟨"", "", ""⟩, 0)) 60 rfl
abbrev MX10_fitting : zM := (yX10_fitting, cX10_fitting, 7, (Option.some FieldType.int))
theorem k_MX10_fitting : Cond.code yX10_fitting cX10_fitting 7 (Option.some FieldType.int) ∈ zTb := zT5 231 rfl rfl
theorem n_MX10_fitting : Cond.instanceMethod yX10_fitting ∈ zTb := zT5 229 (by decide +kernel) rfl
theorem e_MX10_fitting : Cond.selects RX10 yX10_fitting yX10_fitting ∈ zTb := zT5 230 (by decide +kernel) rfl
abbrev MX10_keeps : zM := (yX10_keeps, cX10_keeps, 1, (none : Option FieldType))
theorem k_MX10_keeps : Cond.code yX10_keeps cX10_keeps 1 (none : Option FieldType) ∈ zTb := zT5 235 rfl rfl
theorem n_MX10_keeps : Cond.instanceMethod yX10_keeps ∈ zTb := zT5 234 (by decide +kernel) rfl
theorem e_MX10_keeps : Cond.selects RX10 yX10_keeps yX10_keeps ∈ zTb := zTs (q := lw_privs.getD 61 (⟨"", "", ""⟩, 0)) 61 rfl
abbrev MX10_isRoundedBy : zM := (yX10_isRoundedBy, cX10_isRoundedBy, 3, (Option.some FieldType.boolean))
theorem k_MX10_isRoundedBy : Cond.code yX10_isRoundedBy cX10_isRoundedBy 3 (Option.some FieldType.boolean) ∈ zTb := zT5 239 rfl rfl
theorem n_MX10_isRoundedBy : Cond.instanceMethod yX10_isRoundedBy ∈ zTb := zT5 238 (by decide +kernel) rfl
theorem e_MX10_isRoundedBy : Cond.selects RX10 yX10_isRoundedBy yX10_isRoundedBy ∈ zTb := zTs (q := lw_privs.getD 62 (⟨"", "", ""⟩, 0)) 62 rfl
abbrev MX10_firstOtherwise : zM := (yX10_firstOtherwise, cX10_firstOtherwise, 4, (Option.some FieldType.int))
theorem k_MX10_firstOtherwise : Cond.code yX10_firstOtherwise cX10_firstOtherwise 4 (Option.some FieldType.int) ∈ zTb := zT6 3 rfl rfl
theorem n_MX10_firstOtherwise : Cond.instanceMethod yX10_firstOtherwise ∈ zTb := zT6 2 (by decide +kernel) rfl
theorem e_MX10_firstOtherwise : Cond.selects RX10 yX10_firstOtherwise yX10_firstOtherwise ∈ zTb := zTs (q := lw_privs.getD 63 (⟨"", "", ""⟩, 0)) 63 rfl
abbrev MX10_laysBack : zM := (yX10_laysBack, cX10_laysBack, 1, (none : Option FieldType))
theorem k_MX10_laysBack : Cond.code yX10_laysBack cX10_laysBack 1 (none : Option FieldType) ∈ zTb := zT6 7 rfl rfl
theorem n_MX10_laysBack : Cond.instanceMethod yX10_laysBack ∈ zTb := zT6 6 (by decide +kernel) rfl
theorem e_MX10_laysBack : Cond.selects RX10 yX10_laysBack yX10_laysBack ∈ zTb := zTs (q := lw_privs.getD 64 (⟨"", "", ""⟩, 0)) 64 rfl
abbrev MX10_odds : zM := (yX10_odds, cX10_odds, 6, (Option.some FieldType.long))
theorem k_MX10_odds : Cond.code yX10_odds cX10_odds 6 (Option.some FieldType.long) ∈ zTb := zT6 11 rfl rfl
theorem n_MX10_odds : Cond.instanceMethod yX10_odds ∈ zTb := zT6 9 (by decide +kernel) rfl
theorem e_MX10_odds : Cond.selects RX10 yX10_odds yX10_odds ∈ zTb := zT6 10 (by decide +kernel) rfl
abbrev MX10_mean : zM := (yX10_mean, cX10_mean, 2, (Option.some FieldType.long))
theorem k_MX10_mean : Cond.code yX10_mean cX10_mean 2 (Option.some FieldType.long) ∈ zTb := zT6 16 rfl rfl
theorem n_MX10_mean : Cond.instanceMethod yX10_mean ∈ zTb := zT6 14 (by decide +kernel) rfl
theorem e_MX10_mean : Cond.selects RX10 yX10_mean yX10_mean ∈ zTb := zT6 15 (by decide +kernel) rfl
abbrev MX10_event : zM := (yX10_event, cX10_event, 3, (Option.some FieldType.int))
theorem k_MX10_event : Cond.code yX10_event cX10_event 3 (Option.some FieldType.int) ∈ zTb := zT6 20 rfl rfl
theorem n_MX10_event : Cond.instanceMethod yX10_event ∈ zTb := zT6 18 (by decide +kernel) rfl
theorem e_MX10_event : Cond.selects RX10 yX10_event yX10_event ∈ zTb := zT6 19 (by decide +kernel) rfl
abbrev MX10_isOf : zM := (yX10_isOf, cX10_isOf, 3, (Option.some FieldType.boolean))
theorem k_MX10_isOf : Cond.code yX10_isOf cX10_isOf 3 (Option.some FieldType.boolean) ∈ zTb := zT6 24 rfl rfl
theorem n_MX10_isOf : Cond.instanceMethod yX10_isOf ∈ zTb := zT6 23 (by decide +kernel) rfl
theorem e_MX10_isOf : Cond.selects RX10 yX10_isOf yX10_isOf ∈ zTb := zTs (q := lw_privs.getD 65 (⟨"", "", ""⟩, 0)) 65 rfl
abbrev MX10_after : zM := (yX10_after, cX10_after, 3, (Option.some FieldType.long))
theorem k_MX10_after : Cond.code yX10_after cX10_after 3 (Option.some FieldType.long) ∈ zTb := zT6 28 rfl rfl
theorem n_MX10_after : Cond.instanceMethod yX10_after ∈ zTb := zT6 26 (by decide +kernel) rfl
theorem e_MX10_after : Cond.selects RX10 yX10_after yX10_after ∈ zTb := zT6 27 (by decide +kernel) rfl
abbrev MX10_happens : zM := (yX10_happens, cX10_happens, 4, (none : Option FieldType))
theorem k_MX10_happens : Cond.code yX10_happens cX10_happens 4 (none : Option FieldType) ∈ zTb := zT6 32 rfl rfl
theorem n_MX10_happens : Cond.instanceMethod yX10_happens ∈ zTb := zT6 31 (by decide +kernel) rfl
theorem e_MX10_happens : Cond.selects RX10 yX10_happens yX10_happens ∈ zTb := zTs (q := lw_privs.getD 66 (⟨"", "", ""⟩, 0)) 66 rfl
abbrev MX10_book : zM := (yX10_book, cX10_book, 4, (Option.some FieldType.int))
theorem k_MX10_book : Cond.code yX10_book cX10_book 4 (Option.some FieldType.int) ∈ zTb := zT6 37 rfl rfl
theorem n_MX10_book : Cond.instanceMethod yX10_book ∈ zTb := zT6 35 (by decide +kernel) rfl
theorem e_MX10_book : Cond.selects RX10 yX10_book yX10_book ∈ zTb := zT6 36 (by decide +kernel) rfl
abbrev MX10_looked : zM := (yX10_looked, cX10_looked, 1, (Option.some FieldType.int))
theorem k_MX10_looked : Cond.code yX10_looked cX10_looked 1 (Option.some FieldType.int) ∈ zTb := zT6 41 rfl rfl
theorem n_MX10_looked : Cond.instanceMethod yX10_looked ∈ zTb := zT6 39 (by decide +kernel) rfl
theorem e_MX10_looked : Cond.selects RX10 yX10_looked yX10_looked ∈ zTb := zT6 40 (by decide +kernel) rfl
abbrev MX10_image : zM := (yX10_image, cX10_image, 1, (Option.some FieldType.int))
theorem k_MX10_image : Cond.code yX10_image cX10_image 1 (Option.some FieldType.int) ∈ zTb := zT6 45 rfl rfl
theorem n_MX10_image : Cond.instanceMethod yX10_image ∈ zTb := zT6 43 (by decide +kernel) rfl
theorem e_MX10_image : Cond.selects RX10 yX10_image yX10_image ∈ zTb := zT6 44 (by decide +kernel) rfl
abbrev MX10_cells : zM := (yX10_cells, cX10_cells, 1, (Option.some FieldType.int))
theorem k_MX10_cells : Cond.code yX10_cells cX10_cells 1 (Option.some FieldType.int) ∈ zTb := zT6 49 rfl rfl
theorem n_MX10_cells : Cond.instanceMethod yX10_cells ∈ zTb := zT6 48 (by decide +kernel) rfl
theorem e_MX10_cells : Cond.selects RX10 yX10_cells yX10_cells ∈ zTb := zTs (q := lw_privs.getD 67 (⟨"", "", ""⟩, 0)) 67 rfl
abbrev MX10_undo : zM := (yX10_undo, cX10_undo, 1, (Option.some FieldType.int))
theorem k_MX10_undo : Cond.code yX10_undo cX10_undo 1 (Option.some FieldType.int) ∈ zTb := zT6 53 rfl rfl
theorem n_MX10_undo : Cond.instanceMethod yX10_undo ∈ zTb := zT6 51 (by decide +kernel) rfl
theorem e_MX10_undo : Cond.selects RX10 yX10_undo yX10_undo ∈ zTb := zT6 52 (by decide +kernel) rfl
abbrev MX10_count : zM := (yX10_count, cX10_count, 2, (Option.some FieldType.int))
theorem k_MX10_count : Cond.code yX10_count cX10_count 2 (Option.some FieldType.int) ∈ zTb := zT6 57 rfl rfl
theorem n_MX10_count : Cond.instanceMethod yX10_count ∈ zTb := zT6 55 (by decide +kernel) rfl
theorem e_MX10_count : Cond.selects RX10 yX10_count yX10_count ∈ zTb := zT6 56 (by decide +kernel) rfl
abbrev MX10_tape : zM := (yX10_tape, cX10_tape, 5, (Option.some FieldType.int))
theorem k_MX10_tape : Cond.code yX10_tape cX10_tape 5 (Option.some FieldType.int) ∈ zTb := zT6 61 rfl rfl
theorem n_MX10_tape : Cond.instanceMethod yX10_tape ∈ zTb := zT6 59 (by decide +kernel) rfl
theorem e_MX10_tape : Cond.selects RX10 yX10_tape yX10_tape ∈ zTb := zT6 60 (by decide +kernel) rfl
abbrev MX10_isTape : zM := (yX10_isTape, cX10_isTape, 1, (Option.some FieldType.boolean))
theorem k_MX10_isTape : Cond.code yX10_isTape cX10_isTape 1 (Option.some FieldType.boolean) ∈ zTb := zT6 64 rfl rfl
theorem s_MX10_isTape : Cond.static yX10_isTape ∈ zTb := zT6 63 (by decide +kernel) rfl
abbrev MX10_item : zM := (yX10_item, cX10_item, 5, (Option.some FieldType.int))
theorem k_MX10_item : Cond.code yX10_item cX10_item 5 (Option.some FieldType.int) ∈ zTb := zT6 71 rfl rfl
theorem n_MX10_item : Cond.instanceMethod yX10_item ∈ zTb := zT6 69 (by decide +kernel) rfl
theorem e_MX10_item : Cond.selects RX10 yX10_item yX10_item ∈ zTb := zT6 70 (by decide +kernel) rfl
abbrev MX10_hasItem : zM := (yX10_hasItem, cX10_hasItem, 3, (Option.some FieldType.boolean))
theorem k_MX10_hasItem : Cond.code yX10_hasItem cX10_hasItem 3 (Option.some FieldType.boolean) ∈ zTb := zT6 75 rfl rfl
theorem n_MX10_hasItem : Cond.instanceMethod yX10_hasItem ∈ zTb := zT6 74 (by decide +kernel) rfl
theorem e_MX10_hasItem : Cond.selects RX10 yX10_hasItem yX10_hasItem ∈ zTb := zTs (q := lw_privs.getD 68 (⟨"", "", ""⟩, 0)) 68 rfl
abbrev MX10_asItem : zM := (yX10_asItem, cX10_asItem, 3, (Option.some FieldType.long))
theorem k_MX10_asItem : Cond.code yX10_asItem cX10_asItem 3 (Option.some FieldType.long) ∈ zTb := zT6 78 rfl rfl
theorem s_MX10_asItem : Cond.static yX10_asItem ∈ zTb := zT6 77 (by decide +kernel) rfl
abbrev MX10_peek : zM := (yX10_peek, cX10_peek, 3, (Option.some FieldType.long))
theorem k_MX10_peek : Cond.code yX10_peek cX10_peek 3 (Option.some FieldType.long) ∈ zTb := zT6 82 rfl rfl
theorem n_MX10_peek : Cond.instanceMethod yX10_peek ∈ zTb := zT6 80 (by decide +kernel) rfl
theorem e_MX10_peek : Cond.selects RX10 yX10_peek yX10_peek ∈ zTb := zT6 81 (by decide +kernel) rfl
abbrev MX10_shift : zM := (yX10_shift, cX10_shift, 7, (Option.some FieldType.int))
theorem k_MX10_shift : Cond.code yX10_shift cX10_shift 7 (Option.some FieldType.int) ∈ zTb := zT6 86 rfl rfl
theorem n_MX10_shift : Cond.instanceMethod yX10_shift ∈ zTb := zT6 84 (by decide +kernel) rfl
theorem e_MX10_shift : Cond.selects RX10 yX10_shift yX10_shift ∈ zTb := zT6 85 (by decide +kernel) rfl
abbrev MX10_judge : zM := (yX10_judge, cX10_judge, 5, (Option.some FieldType.int))
theorem k_MX10_judge : Cond.code yX10_judge cX10_judge 5 (Option.some FieldType.int) ∈ zTb := zT6 90 rfl rfl
theorem n_MX10_judge : Cond.instanceMethod yX10_judge ∈ zTb := zT6 88 (by decide +kernel) rfl
theorem e_MX10_judge : Cond.selects RX10 yX10_judge yX10_judge ∈ zTb := zT6 89 (by decide +kernel) rfl
theorem l_RL_9 : Cond.methodLink RL 9 yX9_init ∈ zTb := zT1 18 (by decide +kernel) rfl
theorem l_RX9_11 : Cond.methodLink RX9 11 yX2_init ∈ zTb := zT1 26 (by decide +kernel) rfl
theorem l_RX2_11 : Cond.methodLink RX2 11 yX6_init ∈ zTb := zT1 32 (by decide +kernel) rfl
theorem l_RX6_21 : Cond.methodLink RX6 21 yX6_become ∈ zTb := zT1 36 (by decide +kernel) rfl
theorem l_RX2_20 : Cond.methodLink RX2 20 yX7_init ∈ zTb := zT1 74 (by decide +kernel) rfl
theorem l_RX7_20 : Cond.methodLink RX7 20 yX0_init ∈ zTb := zT1 80 (by decide +kernel) rfl
theorem l_RX2_27 : Cond.methodLink RX2 27 yX1_init ∈ zTb := zT1 123 (by decide +kernel) rfl
theorem l_RX1_9 : Cond.methodLink RX1 9 yJ9_max_7cf53 ∈ zTb := zT1 127 (by decide +kernel) rfl
theorem l_RX9_23 : Cond.methodLink RX9 23 yX5_init ∈ zTb := zT1 169 (by decide +kernel) rfl
theorem l_RX9_30 : Cond.methodLink RX9 30 yX8_init ∈ zTb := zT1 183 (by decide +kernel) rfl
theorem l_RX9_37 : Cond.methodLink RX9 37 yX4_init ∈ zTb := zT1 201 (by decide +kernel) rfl
theorem l_RX4_29 : Cond.methodLink RX4 29 yX0_init ∈ zTb := zT1 206 (by decide +kernel) rfl
theorem l_RX9_44 : Cond.methodLink RX9 44 yX6_init ∈ zTb := zT1 237 (by decide +kernel) rfl
theorem l_RX9_51 : Cond.methodLink RX9 51 yX7_init ∈ zTb := zT1 239 (by decide +kernel) rfl
theorem l_RX9_61 : Cond.methodLink RX9 61 yX0_init ∈ zTb := zT2 1 (by decide +kernel) rfl
theorem l_RX9_74 : Cond.methodLink RX9 74 yX3_init ∈ zTb := zT2 4 (by decide +kernel) rfl
theorem l_RL_13 : Cond.methodLink RL 13 yX9_size ∈ zTb := zT2 61 (by decide +kernel) rfl
theorem l_RX9_79 : Cond.methodLink RX9 79 yX2_become ∈ zTb := zT2 65 (by decide +kernel) rfl
theorem l_RX2_40 : Cond.methodLink RX2 40 yX6_become ∈ zTb := zT2 69 (by decide +kernel) rfl
theorem l_RX2_44 : Cond.methodLink RX2 44 yX7_takeCounts ∈ zTb := zT2 70 (by decide +kernel) rfl
theorem l_RX2_48 : Cond.methodLink RX2 48 yX1_empty ∈ zTb := zT2 74 (by decide +kernel) rfl
theorem l_RX9_86 : Cond.methodLink RX9 86 yX6_cells ∈ zTb := zT2 78 (by decide +kernel) rfl
theorem l_RL_18 : Cond.methodLink RL 18 yX9_tell ∈ zTb := zT2 82 (by decide +kernel) rfl
theorem l_RX9_90 : Cond.methodLink RX9 90 yX6_hasCell ∈ zTb := zT2 86 (by decide +kernel) rfl
theorem l_RX9_98 : Cond.methodLink RX9 98 yX9_place ∈ zTb := zT2 90 (by decide +kernel) rfl
theorem l_RX9_105 : Cond.methodLink RX9 105 yX7_takeCounts ∈ zTb := zT2 93 (by decide +kernel) rfl
theorem l_RL_23 : Cond.methodLink RL 23 yX9_mark ∈ zTb := zT2 94 (by decide +kernel) rfl
theorem l_RL_27 : Cond.methodLink RL 27 yX9_margin ∈ zTb := zT2 98 (by decide +kernel) rfl
theorem l_RX9_112 : Cond.methodLink RX9 112 yX6_hasLine ∈ zTb := zT2 102 (by decide +kernel) rfl
theorem l_RX6_42 : Cond.methodLink RX6 42 yX6_lines ∈ zTb := zT2 106 (by decide +kernel) rfl
theorem l_RL_31 : Cond.methodLink RL 31 yX9_three ∈ zTb := zT2 110 (by decide +kernel) rfl
theorem l_RX9_122 : Cond.methodLink RX9 122 yX9_oneIf ∈ zTb := zT2 114 (by decide +kernel) rfl
theorem l_RL_36 : Cond.methodLink RL 36 yX9_of ∈ zTb := zT2 117 (by decide +kernel) rfl
theorem l_RL_40 : Cond.methodLink RL 40 yX9_marginOf ∈ zTb := zT2 121 (by decide +kernel) rfl
theorem l_RL_44 : Cond.methodLink RL 44 yX9_feed ∈ zTb := zT2 125 (by decide +kernel) rfl
theorem l_RX9_126 : Cond.methodLink RX9 126 yX5_append ∈ zTb := zT2 129 (by decide +kernel) rfl
theorem l_RL_49 : Cond.methodLink RL 49 yX9_read ∈ zTb := zT2 133 (by decide +kernel) rfl
theorem l_RX9_130 : Cond.methodLink RX9 130 yX5_fault ∈ zTb := zT2 137 (by decide +kernel) rfl
theorem l_RX5_26 : Cond.methodLink RX5 26 yX5_clauseEnd ∈ zTb := zT2 141 (by decide +kernel) rfl
theorem l_RX5_19 : Cond.methodLink RX5 19 yX5_sign ∈ zTb := zT2 145 (by decide +kernel) rfl
theorem l_RX5_29 : Cond.methodLink RX5 29 yX5_digitsEnd ∈ zTb := zT2 149 (by decide +kernel) rfl
theorem l_RX5_23 : Cond.methodLink RX5 23 yX5_digit ∈ zTb := zT2 153 (by decide +kernel) rfl
theorem l_RX9_133 : Cond.methodLink RX9 133 yX9_doClauses ∈ zTb := zT2 157 (by decide +kernel) rfl
theorem l_RX9_140 : Cond.methodLink RX9 140 yX5_clauseEnd ∈ zTb := zT2 161 (by decide +kernel) rfl
theorem l_RX9_143 : Cond.methodLink RX9 143 yX9_isClauseDone ∈ zTb := zT2 162 (by decide +kernel) rfl
theorem l_RX9_146 : Cond.methodLink RX9 146 yX5_digit ∈ zTb := zT2 166 (by decide +kernel) rfl
theorem l_RX9_149 : Cond.methodLink RX9 149 yX5_number ∈ zTb := zT2 167 (by decide +kernel) rfl
theorem l_RX9_152 : Cond.methodLink RX9 152 yX5_sign ∈ zTb := zT2 171 (by decide +kernel) rfl
theorem l_RX9_155 : Cond.methodLink RX9 155 yX9_size ∈ zTb := zT2 172 (by decide +kernel) rfl
theorem l_RX9_158 : Cond.methodLink RX9 158 yX9_tell ∈ zTb := zT2 173 (by decide +kernel) rfl
theorem l_RX9_162 : Cond.methodLink RX9 162 yX9_mark ∈ zTb := zT2 174 (by decide +kernel) rfl
theorem l_RX9_165 : Cond.methodLink RX9 165 yX9_margin ∈ zTb := zT2 175 (by decide +kernel) rfl
theorem l_RX9_168 : Cond.methodLink RX9 168 yX9_three ∈ zTb := zT2 176 (by decide +kernel) rfl
theorem l_RL_54 : Cond.methodLink RL 54 yX9_begin ∈ zTb := zT2 177 (by decide +kernel) rfl
theorem l_RL_58 : Cond.methodLink RL 58 yX9_fit ∈ zTb := zT2 181 (by decide +kernel) rfl
theorem l_RX9_174 : Cond.methodLink RX9 174 yX7_copyFrom ∈ zTb := zT2 185 (by decide +kernel) rfl
theorem l_RX9_178 : Cond.methodLink RX9 178 yX7_isFitted ∈ zTb := zT2 192 (by decide +kernel) rfl
theorem l_RX7_75 : Cond.methodLink RX7 75 yX6_lines ∈ zTb := zT2 196 (by decide +kernel) rfl
theorem l_RX7_79 : Cond.methodLink RX7 79 yX7_isSummed ∈ zTb := zT2 197 (by decide +kernel) rfl
theorem l_RX7_60 : Cond.methodLink RX7 60 yX0_become ∈ zTb := zT2 201 (by decide +kernel) rfl
theorem l_RX0_15 : Cond.methodLink RX0 15 yX0_commonOf ∈ zTb := zT2 205 (by decide +kernel) rfl
theorem l_RX0_19 : Cond.methodLink RX0 19 yX0_cut ∈ zTb := zT2 208 (by decide +kernel) rfl
theorem l_RX7_64 : Cond.methodLink RX7 64 yX6_lineOf ∈ zTb := zT2 212 (by decide +kernel) rfl
theorem l_RX7_68 : Cond.methodLink RX7 68 yX0_add ∈ zTb := zT2 218 (by decide +kernel) rfl
theorem l_RX7_71 : Cond.methodLink RX7 71 yX0_isFine ∈ zTb := zT2 222 (by decide +kernel) rfl
theorem l_RX7_86 : Cond.methodLink RX7 86 yX7_isLineFitted ∈ zTb := zT2 227 (by decide +kernel) rfl
theorem l_RX9_182 : Cond.methodLink RX9 182 yX7_countOtherwise ∈ zTb := zT2 231 (by decide +kernel) rfl
theorem l_RL_62 : Cond.methodLink RL 62 yX9_rounds ∈ zTb := zT2 235 (by decide +kernel) rfl
theorem l_RX9_186 : Cond.methodLink RX9 186 yX9_isRoundDone ∈ zTb := zT2 239 (by decide +kernel) rfl
theorem l_RL_66 : Cond.methodLink RL 66 yX9_cell ∈ zTb := zT3 3 (by decide +kernel) rfl
theorem l_RL_71 : Cond.methodLink RL 71 yX9_sum ∈ zTb := zT3 8 (by decide +kernel) rfl
theorem l_RX9_199 : Cond.methodLink RX9 199 yX7_isSummed ∈ zTb := zT3 12 (by decide +kernel) rfl
theorem l_RX9_203 : Cond.methodLink RX9 203 yX0_partOf ∈ zTb := zT3 13 (by decide +kernel) rfl
theorem l_RL_75 : Cond.methodLink RL 75 yX9_gap ∈ zTb := zT3 18 (by decide +kernel) rfl
theorem l_RX9_207 : Cond.methodLink RX9 207 yX9_isGapFound ∈ zTb := zT3 22 (by decide +kernel) rfl
theorem l_RX9_215 : Cond.methodLink RX9 215 yJ9_abs_067f4 ∈ zTb := zT3 26 (by decide +kernel) rfl
theorem l_RX9_221 : Cond.methodLink RX9 221 yX0_become ∈ zTb := zT3 29 (by decide +kernel) rfl
theorem l_RL_79 : Cond.methodLink RL 79 yX9_farthest ∈ zTb := zT3 30 (by decide +kernel) rfl
theorem l_RX9_224 : Cond.methodLink RX9 224 yX9_seekWidest ∈ zTb := zT3 34 (by decide +kernel) rfl
theorem l_RX9_227 : Cond.methodLink RX9 227 yX6_lines ∈ zTb := zT3 38 (by decide +kernel) rfl
theorem l_RX9_230 : Cond.methodLink RX9 230 yX0_isMoreThan ∈ zTb := zT3 39 (by decide +kernel) rfl
theorem l_RL_83 : Cond.methodLink RL 83 yX9_told ∈ zTb := zT3 43 (by decide +kernel) rfl
theorem l_RX9_240 : Cond.methodLink RX9 240 yX6_isPossible ∈ zTb := zT3 47 (by decide +kernel) rfl
theorem l_RX6_50 : Cond.methodLink RX6 50 yX6_allMargins ∈ zTb := zT3 51 (by decide +kernel) rfl
theorem l_RX6_53 : Cond.methodLink RX6 53 yX6_forbids ∈ zTb := zT3 55 (by decide +kernel) rfl
theorem l_RX6_57 : Cond.methodLink RX6 57 yJ6_bitCount_0f7a4 ∈ zTb := zT3 59 (by decide +kernel) rfl
theorem l_RX6_62 : Cond.methodLink RX6 62 yX6_marginsOf ∈ zTb := zT3 65 (by decide +kernel) rfl
theorem l_RX6_65 : Cond.methodLink RX6 65 yX6_marginsReached ∈ zTb := zT3 69 (by decide +kernel) rfl
theorem l_RX6_68 : Cond.methodLink RX6 68 yX6_isReached ∈ zTb := zT3 73 (by decide +kernel) rfl
theorem l_RX9_244 : Cond.methodLink RX9 244 yX6_forbids ∈ zTb := zT3 77 (by decide +kernel) rfl
theorem l_RX9_247 : Cond.methodLink RX9 247 yX6_allCounts ∈ zTb := zT3 78 (by decide +kernel) rfl
theorem l_RL_87 : Cond.methodLink RL 87 yX9_rounded ∈ zTb := zT3 82 (by decide +kernel) rfl
theorem l_RX9_250 : Cond.methodLink RX9 250 yX4_isFound ∈ zTb := zT3 86 (by decide +kernel) rfl
theorem l_RX4_48 : Cond.methodLink RX4 48 yX4_areSumsBounded ∈ zTb := zT3 90 (by decide +kernel) rfl
theorem l_RX4_60 : Cond.methodLink RX4 60 yX0_become ∈ zTb := zT3 94 (by decide +kernel) rfl
theorem l_RX4_64 : Cond.methodLink RX4 64 yX7_isSummed ∈ zTb := zT3 95 (by decide +kernel) rfl
theorem l_RX4_74 : Cond.methodLink RX4 74 yX4_boundLine ∈ zTb := zT3 97 (by decide +kernel) rfl
theorem l_RX4_97 : Cond.methodLink RX4 97 yX4_wholesOf ∈ zTb := zT3 101 (by decide +kernel) rfl
theorem l_RX4_85 : Cond.methodLink RX4 85 yX0_add ∈ zTb := zT3 105 (by decide +kernel) rfl
theorem l_RX4_88 : Cond.methodLink RX4 88 yX0_isFine ∈ zTb := zT3 106 (by decide +kernel) rfl
theorem l_RX4_52 : Cond.methodLink RX4 52 yX4_boundCells ∈ zTb := zT3 107 (by decide +kernel) rfl
theorem l_RX4_56 : Cond.methodLink RX4 56 yX4_isPutFrom ∈ zTb := zT3 111 (by decide +kernel) rfl
theorem l_RX4_105 : Cond.methodLink RX4 105 yX4_doColumnsStand ∈ zTb := zT3 114 (by decide +kernel) rfl
theorem l_RX4_112 : Cond.methodLink RX4 112 yX4_stands ∈ zTb := zT3 118 (by decide +kernel) rfl
theorem l_RX4_108 : Cond.methodLink RX4 108 yX4_allPut ∈ zTb := zT3 122 (by decide +kernel) rfl
theorem l_RX4_116 : Cond.methodLink RX4 116 yX4_rowPut ∈ zTb := zT3 126 (by decide +kernel) rfl
theorem l_RL_91 : Cond.methodLink RL 91 yX9_together ∈ zTb := zT3 130 (by decide +kernel) rfl
theorem l_RX9_256 : Cond.methodLink RX9 256 yX6_lineOf ∈ zTb := zT3 134 (by decide +kernel) rfl
theorem l_RL_95 : Cond.methodLink RL 95 yX9_cross ∈ zTb := zT3 135 (by decide +kernel) rfl
theorem l_RX9_259 : Cond.methodLink RX9 259 yX3_clear ∈ zTb := zT3 139 (by decide +kernel) rfl
theorem l_RX9_262 : Cond.methodLink RX9 262 yX3_times ∈ zTb := zT3 143 (by decide +kernel) rfl
theorem l_RX3_30 : Cond.methodLink RX3 30 yX3_append ∈ zTb := zT3 147 (by decide +kernel) rfl
theorem l_RX9_266 : Cond.methodLink RX9 266 yX3_by ∈ zTb := zT3 151 (by decide +kernel) rfl
theorem l_RX9_269 : Cond.methodLink RX9 269 yX3_partOf ∈ zTb := zT3 155 (by decide +kernel) rfl
theorem l_RX3_36 : Cond.methodLink RX3 36 yX3_cancel ∈ zTb := zT3 160 (by decide +kernel) rfl
theorem l_RX3_43 : Cond.methodLink RX3 43 yX0_commonOf ∈ zTb := zT3 164 (by decide +kernel) rfl
theorem l_RX3_39 : Cond.methodLink RX3 39 yX3_productOf ∈ zTb := zT3 165 (by decide +kernel) rfl
theorem l_RX3_49 : Cond.methodLink RX3 49 yX0_product ∈ zTb := zT3 169 (by decide +kernel) rfl
theorem l_RL_100 : Cond.methodLink RL 100 yX9_orders ∈ zTb := zT3 173 (by decide +kernel) rfl
theorem l_RX9_270 : Cond.methodLink RX9 270 yX0_timesBy ∈ zTb := zT3 177 (by decide +kernel) rfl
theorem l_RX0_32 : Cond.methodLink RX0 32 yX0_product ∈ zTb := zT3 180 (by decide +kernel) rfl
theorem l_RL_105 : Cond.methodLink RL 105 yX9_rank ∈ zTb := zT3 181 (by decide +kernel) rfl
theorem l_RX9_274 : Cond.methodLink RX9 274 yX9_countAhead ∈ zTb := zT3 185 (by decide +kernel) rfl
theorem l_RX9_277 : Cond.methodLink RX9 277 yX7_compare ∈ zTb := zT3 189 (by decide +kernel) rfl
theorem l_RX7_44 : Cond.methodLink RX7 44 yJ13_compare_74951 ∈ zTb := zT3 193 (by decide +kernel) rfl
theorem l_RL_109 : Cond.methodLink RL 109 yX9_see ∈ zTb := zT3 196 (by decide +kernel) rfl
theorem l_RX9_284 : Cond.methodLink RX9 284 yX9_noteCell ∈ zTb := zT3 200 (by decide +kernel) rfl
theorem l_RX9_288 : Cond.methodLink RX9 288 yX1_empty ∈ zTb := zT3 204 (by decide +kernel) rfl
theorem l_RX9_293 : Cond.methodLink RX9 293 yX1_append ∈ zTb := zT3 205 (by decide +kernel) rfl
theorem l_RL_113 : Cond.methodLink RL 113 yX9_fitting ∈ zTb := zT3 209 (by decide +kernel) rfl
theorem l_RX9_295 : Cond.methodLink RX9 295 yX9_isRoundedBehind ∈ zTb := zT3 213 (by decide +kernel) rfl
theorem l_RX9_302 : Cond.methodLink RX9 302 yX6_copyFrom ∈ zTb := zT3 217 (by decide +kernel) rfl
theorem l_RX9_298 : Cond.methodLink RX9 298 yX9_firstOtherwise ∈ zTb := zT3 222 (by decide +kernel) rfl
theorem l_RL_117 : Cond.methodLink RL 117 yX9_odds ∈ zTb := zT3 226 (by decide +kernel) rfl
theorem l_RL_121 : Cond.methodLink RL 121 yX9_mean ∈ zTb := zT3 231 (by decide +kernel) rfl
theorem l_RL_126 : Cond.methodLink RL 126 yX9_event ∈ zTb := zT3 235 (by decide +kernel) rfl
theorem l_RL_130 : Cond.methodLink RL 130 yX9_after ∈ zTb := zT3 239 (by decide +kernel) rfl
theorem l_RX9_317 : Cond.methodLink RX9 317 yX6_happen ∈ zTb := zT4 3 (by decide +kernel) rfl
theorem l_RX6_72 : Cond.methodLink RX6 72 yX6_hasCell ∈ zTb := zT4 7 (by decide +kernel) rfl
theorem l_RX6_75 : Cond.methodLink RX6 75 yX6_raise ∈ zTb := zT4 8 (by decide +kernel) rfl
theorem l_RX6_78 : Cond.methodLink RX6 78 yX6_hasLine ∈ zTb := zT4 12 (by decide +kernel) rfl
theorem l_RX6_81 : Cond.methodLink RX6 81 yJ9_min_7cf53 ∈ zTb := zT4 13 (by decide +kernel) rfl
theorem l_RX9_320 : Cond.methodLink RX9 320 yX6_allMargins ∈ zTb := zT4 16 (by decide +kernel) rfl
theorem l_RL_134 : Cond.methodLink RL 134 yX9_book ∈ zTb := zT4 17 (by decide +kernel) rfl
theorem l_RL_138 : Cond.methodLink RL 138 yX9_looked ∈ zTb := zT4 21 (by decide +kernel) rfl
theorem l_RL_142 : Cond.methodLink RL 142 yX9_judge ∈ zTb := zT4 25 (by decide +kernel) rfl
theorem l_RX9_326 : Cond.methodLink RX9 326 yX8_hasTape ∈ zTb := zT4 29 (by decide +kernel) rfl
theorem l_RX9_330 : Cond.methodLink RX9 330 yX8_holds ∈ zTb := zT4 33 (by decide +kernel) rfl
theorem l_RX9_333 : Cond.methodLink RX9 333 yX8_isOfInts ∈ zTb := zT4 37 (by decide +kernel) rfl
theorem l_RX9_336 : Cond.methodLink RX9 336 yX8_lengthOf ∈ zTb := zT4 41 (by decide +kernel) rfl
theorem l_RX9_339 : Cond.methodLink RX9 339 yX8_itemAt ∈ zTb := zT4 45 (by decide +kernel) rfl
theorem l_RL_146 : Cond.methodLink RL 146 yX9_image ∈ zTb := zT4 49 (by decide +kernel) rfl
theorem l_RX9_343 : Cond.methodLink RX9 343 yX2_copyFrom ∈ zTb := zT4 53 (by decide +kernel) rfl
theorem l_RX2_52 : Cond.methodLink RX2 52 yX6_copyFrom ∈ zTb := zT4 57 (by decide +kernel) rfl
theorem l_RX2_55 : Cond.methodLink RX2 55 yX7_copyFrom ∈ zTb := zT4 58 (by decide +kernel) rfl
theorem l_RX2_58 : Cond.methodLink RX2 58 yX1_copyFrom ∈ zTb := zT4 59 (by decide +kernel) rfl
theorem l_RX1_31 : Cond.methodLink RX1 31 yJ9_min_7cf53 ∈ zTb := zT4 63 (by decide +kernel) rfl
theorem l_RL_150 : Cond.methodLink RL 150 yX9_undo ∈ zTb := zT4 64 (by decide +kernel) rfl
theorem l_RL_154 : Cond.methodLink RL 154 yX9_count ∈ zTb := zT4 68 (by decide +kernel) rfl
theorem l_RL_158 : Cond.methodLink RL 158 yX9_tape ∈ zTb := zT4 72 (by decide +kernel) rfl
theorem l_RX9_349 : Cond.methodLink RX9 349 yX8_become ∈ zTb := zT4 76 (by decide +kernel) rfl
theorem l_RL_164 : Cond.methodLink RL 164 yX9_item ∈ zTb := zT4 80 (by decide +kernel) rfl
theorem l_RX9_351 : Cond.methodLink RX9 351 yX8_hasItem ∈ zTb := zT4 84 (by decide +kernel) rfl
theorem l_RX9_354 : Cond.methodLink RX9 354 yX8_put ∈ zTb := zT4 88 (by decide +kernel) rfl
theorem l_RX8_21 : Cond.methodLink RX8 21 yX8_cut ∈ zTb := zT4 92 (by decide +kernel) rfl
theorem l_RL_169 : Cond.methodLink RL 169 yX9_peek ∈ zTb := zT4 95 (by decide +kernel) rfl
theorem l_RL_174 : Cond.methodLink RL 174 yX9_shift ∈ zTb := zT4 99 (by decide +kernel) rfl
theorem l_RX9_358 : Cond.methodLink RX9 358 yX8_isAlike ∈ zTb := zT4 103 (by decide +kernel) rfl
theorem l_RX9_361 : Cond.methodLink RX9 361 yX8_hasItems ∈ zTb := zT4 107 (by decide +kernel) rfl
theorem l_RX9_365 : Cond.methodLink RX9 365 yX8_move ∈ zTb := zT4 111 (by decide +kernel) rfl
theorem l_RL_12 : Cond.methodLink RL 12 yX10_init ∈ zTb := zT4 118 (by decide +kernel) rfl
theorem l_RX10_64 : Cond.methodLink RX10 64 yX10_size ∈ zTb := zT4 122 (by decide +kernel) rfl
theorem l_RX10_68 : Cond.methodLink RX10 68 yX10_within ∈ zTb := zT4 127 (by decide +kernel) rfl
theorem l_RX10_88 : Cond.methodLink RX10 88 yX10_begin ∈ zTb := zT4 130 (by decide +kernel) rfl
theorem l_RL_17 : Cond.methodLink RL 17 yX10_size ∈ zTb := zT4 210 (by decide +kernel) rfl
theorem l_RL_57 : Cond.methodLink RL 57 yX10_begin ∈ zTb := zT4 211 (by decide +kernel) rfl
theorem l_RL_22 : Cond.methodLink RL 22 yX10_tell ∈ zTb := zT4 212 (by decide +kernel) rfl
theorem l_RX10_72 : Cond.methodLink RX10 72 yX10_isCell ∈ zTb := zT4 216 (by decide +kernel) rfl
theorem l_RL_26 : Cond.methodLink RL 26 yX10_mark ∈ zTb := zT4 221 (by decide +kernel) rfl
theorem l_RX10_94 : Cond.methodLink RX10 94 yX10_becomes ∈ zTb := zT4 226 (by decide +kernel) rfl
theorem l_RL_30 : Cond.methodLink RL 30 yX10_margin ∈ zTb := zT4 230 (by decide +kernel) rfl
theorem l_RX10_97 : Cond.methodLink RX10 97 yX10_isLine ∈ zTb := zT4 234 (by decide +kernel) rfl
theorem l_RX10_78 : Cond.methodLink RX10 78 yX10_linesOf ∈ zTb := zT4 238 (by decide +kernel) rfl
theorem l_RL_35 : Cond.methodLink RL 35 yX10_three ∈ zTb := zT5 3 (by decide +kernel) rfl
theorem l_RL_39 : Cond.methodLink RL 39 yX10_of ∈ zTb := zT5 7 (by decide +kernel) rfl
theorem l_RL_43 : Cond.methodLink RL 43 yX10_marginOf ∈ zTb := zT5 11 (by decide +kernel) rfl
theorem l_RX10_102 : Cond.methodLink RX10 102 yX10_marginAt ∈ zTb := zT5 15 (by decide +kernel) rfl
theorem l_RL_48 : Cond.methodLink RL 48 yX10_feed ∈ zTb := zT5 19 (by decide +kernel) rfl
theorem l_RL_53 : Cond.methodLink RL 53 yX10_read ∈ zTb := zT5 24 (by decide +kernel) rfl
theorem l_RX10_137 : Cond.methodLink RX10 137 yX10_readsAll ∈ zTb := zT5 28 (by decide +kernel) rfl
theorem l_RX10_124 : Cond.methodLink RX10 124 yX10_readsClause ∈ zTb := zT5 32 (by decide +kernel) rfl
theorem l_RX10_115 : Cond.methodLink RX10 115 yX10_isKind ∈ zTb := zT5 36 (by decide +kernel) rfl
theorem l_RX10_118 : Cond.methodLink RX10 118 yX10_digitsOf ∈ zTb := zT5 39 (by decide +kernel) rfl
theorem l_RX10_121 : Cond.methodLink RX10 121 yX10_isDigit ∈ zTb := zT5 42 (by decide +kernel) rfl
theorem l_RX10_140 : Cond.methodLink RX10 140 yX10_does ∈ zTb := zT5 48 (by decide +kernel) rfl
theorem l_RX10_127 : Cond.methodLink RX10 127 yX10_tell ∈ zTb := zT5 52 (by decide +kernel) rfl
theorem l_RX10_131 : Cond.methodLink RX10 131 yX10_mark ∈ zTb := zT5 53 (by decide +kernel) rfl
theorem l_RX10_134 : Cond.methodLink RX10 134 yX10_margin ∈ zTb := zT5 54 (by decide +kernel) rfl
theorem l_RL_61 : Cond.methodLink RL 61 yX10_fit ∈ zTb := zT5 55 (by decide +kernel) rfl
theorem l_RX10_174 : Cond.methodLink RX10 174 yX10_fits ∈ zTb := zT5 59 (by decide +kernel) rfl
theorem l_RX10_167 : Cond.methodLink RX10 167 yX10_sums ∈ zTb := zT5 63 (by decide +kernel) rfl
theorem l_RX10_160 : Cond.methodLink RX10 160 yX10_isIn ∈ zTb := zT5 67 (by decide +kernel) rfl
theorem l_RX10_82 : Cond.methodLink RX10 82 yX10_isHere ∈ zTb := zT5 71 (by decide +kernel) rfl
theorem l_RX10_164 : Cond.methodLink RX10 164 yX10_adds ∈ zTb := zT5 75 (by decide +kernel) rfl
theorem l_RX10_156 : Cond.methodLink RX10 156 yX10_worksOut ∈ zTb := zT5 79 (by decide +kernel) rfl
theorem l_RX10_143 : Cond.methodLink RX10 143 yX10_divisor ∈ zTb := zT5 83 (by decide +kernel) rfl
theorem l_RX10_170 : Cond.methodLink RX10 170 yX10_fitsLine ∈ zTb := zT5 87 (by decide +kernel) rfl
theorem l_RL_65 : Cond.methodLink RL 65 yX10_rounds ∈ zTb := zT5 91 (by decide +kernel) rfl
theorem l_RX10_183 : Cond.methodLink RX10 183 yX10_goesRound ∈ zTb := zT5 95 (by decide +kernel) rfl
theorem l_RL_70 : Cond.methodLink RL 70 yX10_cell ∈ zTb := zT5 100 (by decide +kernel) rfl
theorem l_RX10_187 : Cond.methodLink RX10 187 yX10_isPart ∈ zTb := zT5 104 (by decide +kernel) rfl
theorem l_RL_74 : Cond.methodLink RL 74 yX10_sum ∈ zTb := zT5 108 (by decide +kernel) rfl
theorem l_RL_78 : Cond.methodLink RL 78 yX10_gap ∈ zTb := zT5 112 (by decide +kernel) rfl
theorem l_RX10_192 : Cond.methodLink RX10 192 yX10_gaps ∈ zTb := zT5 116 (by decide +kernel) rfl
theorem l_RL_82 : Cond.methodLink RL 82 yX10_farthest ∈ zTb := zT5 120 (by decide +kernel) rfl
theorem l_RL_86 : Cond.methodLink RL 86 yX10_told ∈ zTb := zT5 124 (by decide +kernel) rfl
theorem l_RX10_220 : Cond.methodLink RX10 220 yX10_settled ∈ zTb := zT5 128 (by decide +kernel) rfl
theorem l_RX10_217 : Cond.methodLink RX10 217 yX10_farthest ∈ zTb := zT5 132 (by decide +kernel) rfl
theorem l_RX10_223 : Cond.methodLink RX10 223 yX10_possible ∈ zTb := zT5 133 (by decide +kernel) rfl
theorem l_RX10_211 : Cond.methodLink RX10 211 yX10_surplus ∈ zTb := zT5 137 (by decide +kernel) rfl
theorem l_RX10_202 : Cond.methodLink RX10 202 yX10_rowsTogether ∈ zTb := zT5 141 (by decide +kernel) rfl
theorem l_RX10_214 : Cond.methodLink RX10 214 yX10_forbids ∈ zTb := zT5 145 (by decide +kernel) rfl
theorem l_RX10_205 : Cond.methodLink RX10 205 yX10_reached ∈ zTb := zT5 149 (by decide +kernel) rfl
theorem l_RX10_208 : Cond.methodLink RX10 208 yX10_sizeOf ∈ zTb := zT5 153 (by decide +kernel) rfl
theorem l_RX10_226 : Cond.methodLink RX10 226 yX10_allCounts ∈ zTb := zT5 156 (by decide +kernel) rfl
theorem l_RL_90 : Cond.methodLink RL 90 yX10_rounded ∈ zTb := zT5 160 (by decide +kernel) rfl
theorem l_RX10_253 : Cond.methodLink RX10 253 yX10_isRounded ∈ zTb := zT5 164 (by decide +kernel) rfl
theorem l_RX10_250 : Cond.methodLink RX10 250 yX10_hasLimits ∈ zTb := zT5 168 (by decide +kernel) rfl
theorem l_RX10_229 : Cond.methodLink RX10 229 yX10_down ∈ zTb := zT5 172 (by decide +kernel) rfl
theorem l_RX10_232 : Cond.methodLink RX10 232 yX10_up ∈ zTb := zT5 176 (by decide +kernel) rfl
theorem l_RX10_247 : Cond.methodLink RX10 247 yX10_goesOn ∈ zTb := zT5 180 (by decide +kernel) rfl
theorem l_RX10_244 : Cond.methodLink RX10 244 yX10_fitsWhole ∈ zTb := zT5 184 (by decide +kernel) rfl
theorem l_RX10_241 : Cond.methodLink RX10 241 yX10_togetherOf ∈ zTb := zT5 188 (by decide +kernel) rfl
theorem l_RL_94 : Cond.methodLink RL 94 yX10_together ∈ zTb := zT5 192 (by decide +kernel) rfl
theorem l_RL_99 : Cond.methodLink RL 99 yX10_cross ∈ zTb := zT5 196 (by decide +kernel) rfl
theorem l_RX10_258 : Cond.methodLink RX10 258 yX10_ratio ∈ zTb := zT5 200 (by decide +kernel) rfl
theorem l_RX10_262 : Cond.methodLink RX10 262 yX10_product ∈ zTb := zT5 204 (by decide +kernel) rfl
theorem l_RL_104 : Cond.methodLink RL 104 yX10_orders ∈ zTb := zT5 208 (by decide +kernel) rfl
theorem l_RL_108 : Cond.methodLink RL 108 yX10_rank ∈ zTb := zT5 212 (by decide +kernel) rfl
theorem l_RX10_266 : Cond.methodLink RX10 266 yX10_isAhead ∈ zTb := zT5 216 (by decide +kernel) rfl
theorem l_RL_112 : Cond.methodLink RL 112 yX10_see ∈ zTb := zT5 220 (by decide +kernel) rfl
theorem l_RX10_269 : Cond.methodLink RX10 269 yX10_lists ∈ zTb := zT5 224 (by decide +kernel) rfl
theorem l_RL_116 : Cond.methodLink RL 116 yX10_fitting ∈ zTb := zT5 228 (by decide +kernel) rfl
theorem l_RX10_273 : Cond.methodLink RX10 273 yX10_keeps ∈ zTb := zT5 232 (by decide +kernel) rfl
theorem l_RX10_276 : Cond.methodLink RX10 276 yX10_isRoundedBy ∈ zTb := zT5 236 (by decide +kernel) rfl
theorem l_RX10_279 : Cond.methodLink RX10 279 yX10_firstOtherwise ∈ zTb := zT6 0 (by decide +kernel) rfl
theorem l_RX10_282 : Cond.methodLink RX10 282 yX10_laysBack ∈ zTb := zT6 4 (by decide +kernel) rfl
theorem l_RL_120 : Cond.methodLink RL 120 yX10_odds ∈ zTb := zT6 8 (by decide +kernel) rfl
theorem l_RL_125 : Cond.methodLink RL 125 yX10_mean ∈ zTb := zT6 13 (by decide +kernel) rfl
theorem l_RL_129 : Cond.methodLink RL 129 yX10_event ∈ zTb := zT6 17 (by decide +kernel) rfl
theorem l_RX10_287 : Cond.methodLink RX10 287 yX10_isOf ∈ zTb := zT6 21 (by decide +kernel) rfl
theorem l_RL_133 : Cond.methodLink RL 133 yX10_after ∈ zTb := zT6 25 (by decide +kernel) rfl
theorem l_RX10_295 : Cond.methodLink RX10 295 yX10_happens ∈ zTb := zT6 29 (by decide +kernel) rfl
theorem l_RX10_290 : Cond.methodLink RX10 290 yJ9_min_7cf53 ∈ zTb := zT6 33 (by decide +kernel) rfl
theorem l_RL_137 : Cond.methodLink RL 137 yX10_book ∈ zTb := zT6 34 (by decide +kernel) rfl
theorem l_RL_141 : Cond.methodLink RL 141 yX10_looked ∈ zTb := zT6 38 (by decide +kernel) rfl
theorem l_RL_149 : Cond.methodLink RL 149 yX10_image ∈ zTb := zT6 42 (by decide +kernel) rfl
theorem l_RX10_303 : Cond.methodLink RX10 303 yX10_cells ∈ zTb := zT6 46 (by decide +kernel) rfl
theorem l_RL_153 : Cond.methodLink RL 153 yX10_undo ∈ zTb := zT6 50 (by decide +kernel) rfl
theorem l_RL_157 : Cond.methodLink RL 157 yX10_count ∈ zTb := zT6 54 (by decide +kernel) rfl
theorem l_RL_161 : Cond.methodLink RL 161 yX10_tape ∈ zTb := zT6 58 (by decide +kernel) rfl
theorem l_RX10_308 : Cond.methodLink RX10 308 yX10_isTape ∈ zTb := zT6 62 (by decide +kernel) rfl
theorem l_RL_168 : Cond.methodLink RL 168 yX10_item ∈ zTb := zT6 68 (by decide +kernel) rfl
theorem l_RX10_315 : Cond.methodLink RX10 315 yX10_hasItem ∈ zTb := zT6 72 (by decide +kernel) rfl
theorem l_RX10_318 : Cond.methodLink RX10 318 yX10_asItem ∈ zTb := zT6 76 (by decide +kernel) rfl
theorem l_RL_173 : Cond.methodLink RL 173 yX10_peek ∈ zTb := zT6 79 (by decide +kernel) rfl
theorem l_RL_178 : Cond.methodLink RL 178 yX10_shift ∈ zTb := zT6 83 (by decide +kernel) rfl
theorem l_RL_145 : Cond.methodLink RL 145 yX10_judge ∈ zTb := zT6 87 (by decide +kernel) rfl
def zcls : List vw_C := [(RX0, TX0, 2), (RX1, TX1, 4), (RX2, TX2, 5), (RX3, TX3, 4), (RX4, TX4, 9), (RX5, TX5, 2), (RX6, TX6, 6), (RX7, TX7, 5), (RX8, TX8, 3), (RX9, TX9, 13), (RX10, TX10, 25)]
def zCl (ci : Nat) (C : String) (T : u_T) (N : Nat) (ty : Nat → FieldType) : Prop := zcls[ci]? = some (C, T, N) ∧ (∀ w ∈ u_ws C T N, w ∈ zTb) ∧ (∀ k, k < N → parseFieldDescriptor (T k).2.2.1 = some (ty k)) ∧ ∀ a, a < N → ∀ b, b < N → a ≠ b → (T a).2.1 ≠ (T b).2.1
theorem y_RX0_0 : u_lay RX0 TX0 0 ∈ zTb := zT1 92 (by decide +kernel) rfl
theorem y_RX0_1 : u_lay RX0 TX0 1 ∈ zTb := zT1 94 (by decide +kernel) rfl
theorem zc0 : zCl 0 RX0 TX0 2 tyX0 := ⟨rfl, fun w hw => by
    obtain ⟨k, hk, rfl⟩ := List.mem_map.mp hw
    have h := List.mem_range.mp hk
    rcases (show k = 0 ∨ k = 1 by omega) with rfl | rfl
    · exact y_RX0_0
    · exact y_RX0_1, tyX0_ok, nmX0⟩
theorem y_RX1_0 : u_lay RX1 TX1 0 ∈ zTb := zT1 137 (by decide +kernel) rfl
theorem y_RX1_1 : u_lay RX1 TX1 1 ∈ zTb := zT1 139 (by decide +kernel) rfl
theorem y_RX1_2 : u_lay RX1 TX1 2 ∈ zTb := zT1 141 (by decide +kernel) rfl
theorem y_RX1_3 : u_lay RX1 TX1 3 ∈ zTb := zT1 143 (by decide +kernel) rfl
theorem zc1 : zCl 1 RX1 TX1 4 tyX1 := ⟨rfl, fun w hw => by
    obtain ⟨k, hk, rfl⟩ := List.mem_map.mp hw
    have h := List.mem_range.mp hk
    rcases (show k = 0 ∨ k = 1 ∨ k = 2 ∨ k = 3 by omega) with rfl | rfl | rfl | rfl
    · exact y_RX1_0
    · exact y_RX1_1
    · exact y_RX1_2
    · exact y_RX1_3, tyX1_ok, nmX1⟩
theorem y_RX2_0 : u_lay RX2 TX2 0 ∈ zTb := zT1 156 (by decide +kernel) rfl
theorem y_RX2_1 : u_lay RX2 TX2 1 ∈ zTb := zT1 158 (by decide +kernel) rfl
theorem y_RX2_2 : u_lay RX2 TX2 2 ∈ zTb := zT1 160 (by decide +kernel) rfl
theorem y_RX2_3 : u_lay RX2 TX2 3 ∈ zTb := zT1 162 (by decide +kernel) rfl
theorem y_RX2_4 : u_lay RX2 TX2 4 ∈ zTb := zT1 164 (by decide +kernel) rfl
theorem zc2 : zCl 2 RX2 TX2 5 tyX2 := ⟨rfl, fun w hw => by
    obtain ⟨k, hk, rfl⟩ := List.mem_map.mp hw
    have h := List.mem_range.mp hk
    rcases (show k = 0 ∨ k = 1 ∨ k = 2 ∨ k = 3 ∨ k = 4 by omega) with rfl | rfl | rfl | rfl | rfl
    · exact y_RX2_0
    · exact y_RX2_1
    · exact y_RX2_2
    · exact y_RX2_3
    · exact y_RX2_4, tyX2_ok, nmX2⟩
theorem y_RX3_0 : u_lay RX3 TX3 0 ∈ zTb := zT2 12 (by decide +kernel) rfl
theorem y_RX3_1 : u_lay RX3 TX3 1 ∈ zTb := zT2 14 (by decide +kernel) rfl
theorem y_RX3_2 : u_lay RX3 TX3 2 ∈ zTb := zT2 16 (by decide +kernel) rfl
theorem y_RX3_3 : u_lay RX3 TX3 3 ∈ zTb := zT2 18 (by decide +kernel) rfl
theorem zc3 : zCl 3 RX3 TX3 4 tyX3 := ⟨rfl, fun w hw => by
    obtain ⟨k, hk, rfl⟩ := List.mem_map.mp hw
    have h := List.mem_range.mp hk
    rcases (show k = 0 ∨ k = 1 ∨ k = 2 ∨ k = 3 by omega) with rfl | rfl | rfl | rfl
    · exact y_RX3_0
    · exact y_RX3_1
    · exact y_RX3_2
    · exact y_RX3_3, tyX3_ok, nmX3⟩
theorem y_RX4_0 : u_lay RX4 TX4 0 ∈ zTb := zT1 217 (by decide +kernel) rfl
theorem y_RX4_1 : u_lay RX4 TX4 1 ∈ zTb := zT1 219 (by decide +kernel) rfl
theorem y_RX4_2 : u_lay RX4 TX4 2 ∈ zTb := zT1 221 (by decide +kernel) rfl
theorem y_RX4_3 : u_lay RX4 TX4 3 ∈ zTb := zT1 223 (by decide +kernel) rfl
theorem y_RX4_4 : u_lay RX4 TX4 4 ∈ zTb := zT1 225 (by decide +kernel) rfl
theorem y_RX4_5 : u_lay RX4 TX4 5 ∈ zTb := zT1 227 (by decide +kernel) rfl
theorem y_RX4_6 : u_lay RX4 TX4 6 ∈ zTb := zT1 229 (by decide +kernel) rfl
theorem y_RX4_7 : u_lay RX4 TX4 7 ∈ zTb := zT1 231 (by decide +kernel) rfl
theorem y_RX4_8 : u_lay RX4 TX4 8 ∈ zTb := zT1 233 (by decide +kernel) rfl
theorem zc4 : zCl 4 RX4 TX4 9 tyX4 := ⟨rfl, fun w hw => by
    obtain ⟨k, hk, rfl⟩ := List.mem_map.mp hw
    have h := List.mem_range.mp hk
    rcases (show k = 0 ∨ k = 1 ∨ k = 2 ∨ k = 3 ∨ k = 4 ∨ k = 5 ∨ k = 6 ∨ k = 7 ∨ k = 8 by omega) with rfl | rfl | rfl | rfl | rfl | rfl | rfl | rfl | rfl
    · exact y_RX4_0
    · exact y_RX4_1
    · exact y_RX4_2
    · exact y_RX4_3
    · exact y_RX4_4
    · exact y_RX4_5
    · exact y_RX4_6
    · exact y_RX4_7
    · exact y_RX4_8, tyX4_ok, nmX4⟩
theorem y_RX5_0 : u_lay RX5 TX5 0 ∈ zTb := zT1 176 (by decide +kernel) rfl
theorem y_RX5_1 : u_lay RX5 TX5 1 ∈ zTb := zT1 178 (by decide +kernel) rfl
theorem zc5 : zCl 5 RX5 TX5 2 tyX5 := ⟨rfl, fun w hw => by
    obtain ⟨k, hk, rfl⟩ := List.mem_map.mp hw
    have h := List.mem_range.mp hk
    rcases (show k = 0 ∨ k = 1 by omega) with rfl | rfl
    · exact y_RX5_0
    · exact y_RX5_1, tyX5_ok, nmX5⟩
theorem y_RX6_0 : u_lay RX6 TX6 0 ∈ zTb := zT1 58 (by decide +kernel) rfl
theorem y_RX6_1 : u_lay RX6 TX6 1 ∈ zTb := zT1 60 (by decide +kernel) rfl
theorem y_RX6_2 : u_lay RX6 TX6 2 ∈ zTb := zT1 62 (by decide +kernel) rfl
theorem y_RX6_3 : u_lay RX6 TX6 3 ∈ zTb := zT1 64 (by decide +kernel) rfl
theorem y_RX6_4 : u_lay RX6 TX6 4 ∈ zTb := zT1 66 (by decide +kernel) rfl
theorem y_RX6_5 : u_lay RX6 TX6 5 ∈ zTb := zT1 68 (by decide +kernel) rfl
theorem zc6 : zCl 6 RX6 TX6 6 tyX6 := ⟨rfl, fun w hw => by
    obtain ⟨k, hk, rfl⟩ := List.mem_map.mp hw
    have h := List.mem_range.mp hk
    rcases (show k = 0 ∨ k = 1 ∨ k = 2 ∨ k = 3 ∨ k = 4 ∨ k = 5 by omega) with rfl | rfl | rfl | rfl | rfl | rfl
    · exact y_RX6_0
    · exact y_RX6_1
    · exact y_RX6_2
    · exact y_RX6_3
    · exact y_RX6_4
    · exact y_RX6_5, tyX6_ok, nmX6⟩
theorem y_RX7_0 : u_lay RX7 TX7 0 ∈ zTb := zT1 110 (by decide +kernel) rfl
theorem y_RX7_1 : u_lay RX7 TX7 1 ∈ zTb := zT1 112 (by decide +kernel) rfl
theorem y_RX7_2 : u_lay RX7 TX7 2 ∈ zTb := zT1 114 (by decide +kernel) rfl
theorem y_RX7_3 : u_lay RX7 TX7 3 ∈ zTb := zT1 116 (by decide +kernel) rfl
theorem y_RX7_4 : u_lay RX7 TX7 4 ∈ zTb := zT1 118 (by decide +kernel) rfl
theorem zc7 : zCl 7 RX7 TX7 5 tyX7 := ⟨rfl, fun w hw => by
    obtain ⟨k, hk, rfl⟩ := List.mem_map.mp hw
    have h := List.mem_range.mp hk
    rcases (show k = 0 ∨ k = 1 ∨ k = 2 ∨ k = 3 ∨ k = 4 by omega) with rfl | rfl | rfl | rfl | rfl
    · exact y_RX7_0
    · exact y_RX7_1
    · exact y_RX7_2
    · exact y_RX7_3
    · exact y_RX7_4, tyX7_ok, nmX7⟩
theorem y_RX8_0 : u_lay RX8 TX8 0 ∈ zTb := zT1 192 (by decide +kernel) rfl
theorem y_RX8_1 : u_lay RX8 TX8 1 ∈ zTb := zT1 194 (by decide +kernel) rfl
theorem y_RX8_2 : u_lay RX8 TX8 2 ∈ zTb := zT1 196 (by decide +kernel) rfl
theorem zc8 : zCl 8 RX8 TX8 3 tyX8 := ⟨rfl, fun w hw => by
    obtain ⟨k, hk, rfl⟩ := List.mem_map.mp hw
    have h := List.mem_range.mp hk
    rcases (show k = 0 ∨ k = 1 ∨ k = 2 by omega) with rfl | rfl | rfl
    · exact y_RX8_0
    · exact y_RX8_1
    · exact y_RX8_2, tyX8_ok, nmX8⟩
theorem y_RX9_0 : u_lay RX9 TX9 0 ∈ zTb := zT2 34 (by decide +kernel) rfl
theorem y_RX9_1 : u_lay RX9 TX9 1 ∈ zTb := zT2 36 (by decide +kernel) rfl
theorem y_RX9_2 : u_lay RX9 TX9 2 ∈ zTb := zT2 38 (by decide +kernel) rfl
theorem y_RX9_3 : u_lay RX9 TX9 3 ∈ zTb := zT2 40 (by decide +kernel) rfl
theorem y_RX9_4 : u_lay RX9 TX9 4 ∈ zTb := zT2 42 (by decide +kernel) rfl
theorem y_RX9_5 : u_lay RX9 TX9 5 ∈ zTb := zT2 44 (by decide +kernel) rfl
theorem y_RX9_6 : u_lay RX9 TX9 6 ∈ zTb := zT2 46 (by decide +kernel) rfl
theorem y_RX9_7 : u_lay RX9 TX9 7 ∈ zTb := zT2 48 (by decide +kernel) rfl
theorem y_RX9_8 : u_lay RX9 TX9 8 ∈ zTb := zT2 50 (by decide +kernel) rfl
theorem y_RX9_9 : u_lay RX9 TX9 9 ∈ zTb := zT2 52 (by decide +kernel) rfl
theorem y_RX9_10 : u_lay RX9 TX9 10 ∈ zTb := zT2 54 (by decide +kernel) rfl
theorem y_RX9_11 : u_lay RX9 TX9 11 ∈ zTb := zT2 56 (by decide +kernel) rfl
theorem y_RX9_12 : u_lay RX9 TX9 12 ∈ zTb := zT2 58 (by decide +kernel) rfl
theorem zc9 : zCl 9 RX9 TX9 13 tyX9 := ⟨rfl, fun w hw => by
    obtain ⟨k, hk, rfl⟩ := List.mem_map.mp hw
    have h := List.mem_range.mp hk
    rcases (show k = 0 ∨ k = 1 ∨ k = 2 ∨ k = 3 ∨ k = 4 ∨ k = 5 ∨ k = 6 ∨ k = 7 ∨ k = 8 ∨ k = 9 ∨ k = 10 ∨ k = 11 ∨ k = 12 by omega) with rfl | rfl | rfl | rfl | rfl | rfl | rfl | rfl | rfl | rfl | rfl | rfl | rfl
    · exact y_RX9_0
    · exact y_RX9_1
    · exact y_RX9_2
    · exact y_RX9_3
    · exact y_RX9_4
    · exact y_RX9_5
    · exact y_RX9_6
    · exact y_RX9_7
    · exact y_RX9_8
    · exact y_RX9_9
    · exact y_RX9_10
    · exact y_RX9_11
    · exact y_RX9_12, tyX9_ok, nmX9⟩
theorem y_RX10_0 : u_lay RX10 TX10 0 ∈ zTb := zT4 159 (by decide +kernel) rfl
theorem y_RX10_1 : u_lay RX10 TX10 1 ∈ zTb := zT4 161 (by decide +kernel) rfl
theorem y_RX10_2 : u_lay RX10 TX10 2 ∈ zTb := zT4 163 (by decide +kernel) rfl
theorem y_RX10_3 : u_lay RX10 TX10 3 ∈ zTb := zT4 165 (by decide +kernel) rfl
theorem y_RX10_4 : u_lay RX10 TX10 4 ∈ zTb := zT4 167 (by decide +kernel) rfl
theorem y_RX10_5 : u_lay RX10 TX10 5 ∈ zTb := zT4 169 (by decide +kernel) rfl
theorem y_RX10_6 : u_lay RX10 TX10 6 ∈ zTb := zT4 171 (by decide +kernel) rfl
theorem y_RX10_7 : u_lay RX10 TX10 7 ∈ zTb := zT4 173 (by decide +kernel) rfl
theorem y_RX10_8 : u_lay RX10 TX10 8 ∈ zTb := zT4 175 (by decide +kernel) rfl
theorem y_RX10_9 : u_lay RX10 TX10 9 ∈ zTb := zT4 177 (by decide +kernel) rfl
theorem y_RX10_10 : u_lay RX10 TX10 10 ∈ zTb := zT4 179 (by decide +kernel) rfl
theorem y_RX10_11 : u_lay RX10 TX10 11 ∈ zTb := zT4 181 (by decide +kernel) rfl
theorem y_RX10_12 : u_lay RX10 TX10 12 ∈ zTb := zT4 183 (by decide +kernel) rfl
theorem y_RX10_13 : u_lay RX10 TX10 13 ∈ zTb := zT4 185 (by decide +kernel) rfl
theorem y_RX10_14 : u_lay RX10 TX10 14 ∈ zTb := zT4 187 (by decide +kernel) rfl
theorem y_RX10_15 : u_lay RX10 TX10 15 ∈ zTb := zT4 189 (by decide +kernel) rfl
theorem y_RX10_16 : u_lay RX10 TX10 16 ∈ zTb := zT4 191 (by decide +kernel) rfl
theorem y_RX10_17 : u_lay RX10 TX10 17 ∈ zTb := zT4 193 (by decide +kernel) rfl
theorem y_RX10_18 : u_lay RX10 TX10 18 ∈ zTb := zT4 195 (by decide +kernel) rfl
theorem y_RX10_19 : u_lay RX10 TX10 19 ∈ zTb := zT4 197 (by decide +kernel) rfl
theorem y_RX10_20 : u_lay RX10 TX10 20 ∈ zTb := zT4 199 (by decide +kernel) rfl
theorem y_RX10_21 : u_lay RX10 TX10 21 ∈ zTb := zT4 201 (by decide +kernel) rfl
theorem y_RX10_22 : u_lay RX10 TX10 22 ∈ zTb := zT4 203 (by decide +kernel) rfl
theorem y_RX10_23 : u_lay RX10 TX10 23 ∈ zTb := zT4 205 (by decide +kernel) rfl
theorem y_RX10_24 : u_lay RX10 TX10 24 ∈ zTb := zT4 207 (by decide +kernel) rfl
theorem zc10 : zCl 10 RX10 TX10 25 tyX10 := ⟨rfl, fun w hw => by
    obtain ⟨k, hk, rfl⟩ := List.mem_map.mp hw
    have h := List.mem_range.mp hk
    rcases (show k = 0 ∨ k = 1 ∨ k = 2 ∨ k = 3 ∨ k = 4 ∨ k = 5 ∨ k = 6 ∨ k = 7 ∨ k = 8 ∨ k = 9 ∨ k = 10 ∨ k = 11 ∨ k = 12 ∨ k = 13 ∨ k = 14 ∨ k = 15 ∨ k = 16 ∨ k = 17 ∨ k = 18 ∨ k = 19 ∨ k = 20 ∨ k = 21 ∨ k = 22 ∨ k = 23 ∨ k = 24 by omega) with rfl | rfl | rfl | rfl | rfl | rfl | rfl | rfl | rfl | rfl | rfl | rfl | rfl | rfl | rfl | rfl | rfl | rfl | rfl | rfl | rfl | rfl | rfl | rfl | rfl
    · exact y_RX10_0
    · exact y_RX10_1
    · exact y_RX10_2
    · exact y_RX10_3
    · exact y_RX10_4
    · exact y_RX10_5
    · exact y_RX10_6
    · exact y_RX10_7
    · exact y_RX10_8
    · exact y_RX10_9
    · exact y_RX10_10
    · exact y_RX10_11
    · exact y_RX10_12
    · exact y_RX10_13
    · exact y_RX10_14
    · exact y_RX10_15
    · exact y_RX10_16
    · exact y_RX10_17
    · exact y_RX10_18
    · exact y_RX10_19
    · exact y_RX10_20
    · exact y_RX10_21
    · exact y_RX10_22
    · exact y_RX10_23
    · exact y_RX10_24, tyX10_ok, nmX10⟩
def zFld (own : String) (idx ci k : Nat) (ty : FieldType) (fin : Bool) : Prop := ∃ (C : String) (T : u_T) (N : Nat) (tys : Nat → FieldType), zCl ci C T N tys ∧ k < N ∧ Cond.fieldLink own idx (T k).1 (T k).2.1 (T k).2.2.1 ∈ zTb ∧ tys k = ty ∧ (T k).2.2.2 = fin
theorem f_RX6_25 : zFld RX6 25 6 0 (.int) false := ⟨RX6, TX6, 6, tyX6, zc6, by decide, zT1 40 (by decide +kernel) rfl, rfl, rfl⟩
theorem f_RX4_37 : zFld RX4 37 6 0 (.int) false := ⟨RX6, TX6, 6, tyX6, zc6, by decide, zT1 41 (by decide +kernel) rfl, rfl, rfl⟩
theorem f_RX7_50 : zFld RX7 50 6 0 (.int) false := ⟨RX6, TX6, 6, tyX6, zc6, by decide, zT1 42 (by decide +kernel) rfl, rfl, rfl⟩
theorem f_RX9_234 : zFld RX9 234 6 0 (.int) false := ⟨RX6, TX6, 6, tyX6, zc6, by decide, zT1 43 (by decide +kernel) rfl, rfl, rfl⟩
theorem f_RX6_29 : zFld RX6 29 6 1 (.int) false := ⟨RX6, TX6, 6, tyX6, zc6, by decide, zT1 44 (by decide +kernel) rfl, rfl, rfl⟩
theorem f_RX4_44 : zFld RX4 44 6 1 (.int) false := ⟨RX6, TX6, 6, tyX6, zc6, by decide, zT1 45 (by decide +kernel) rfl, rfl, rfl⟩
theorem f_RX7_53 : zFld RX7 53 6 1 (.int) false := ⟨RX6, TX6, 6, tyX6, zc6, by decide, zT1 46 (by decide +kernel) rfl, rfl, rfl⟩
theorem f_RX9_237 : zFld RX9 237 6 1 (.int) false := ⟨RX6, TX6, 6, tyX6, zc6, by decide, zT1 47 (by decide +kernel) rfl, rfl, rfl⟩
theorem f_RX6_32 : zFld RX6 32 6 2 (.boolean) false := ⟨RX6, TX6, 6, tyX6, zc6, by decide, zT1 48 (by decide +kernel) rfl, rfl, rfl⟩
theorem f_RX9_118 : zFld RX9 118 6 2 (.boolean) false := ⟨RX6, TX6, 6, tyX6, zc6, by decide, zT1 49 (by decide +kernel) rfl, rfl, rfl⟩
theorem f_RX6_9 : zFld RX6 9 6 3 (.array .int) true := ⟨RX6, TX6, 6, tyX6, zc6, by decide, zT1 50 (by decide +kernel) rfl, rfl, rfl⟩
theorem f_RX7_30 : zFld RX7 30 6 3 (.array .int) true := ⟨RX6, TX6, 6, tyX6, zc6, by decide, zT1 51 (by decide +kernel) rfl, rfl, rfl⟩
theorem f_RX9_94 : zFld RX9 94 6 3 (.array .int) true := ⟨RX6, TX6, 6, tyX6, zc6, by decide, zT1 52 (by decide +kernel) rfl, rfl, rfl⟩
theorem f_RX6_15 : zFld RX6 15 6 4 (.array .int) true := ⟨RX6, TX6, 6, tyX6, zc6, by decide, zT1 53 (by decide +kernel) rfl, rfl, rfl⟩
theorem f_RX9_109 : zFld RX9 109 6 4 (.array .int) true := ⟨RX6, TX6, 6, tyX6, zc6, by decide, zT1 54 (by decide +kernel) rfl, rfl, rfl⟩
theorem f_RX6_18 : zFld RX6 18 6 5 (.array .int) true := ⟨RX6, TX6, 6, tyX6, zc6, by decide, zT1 55 (by decide +kernel) rfl, rfl, rfl⟩
theorem f_RX9_115 : zFld RX9 115 6 5 (.array .int) true := ⟨RX6, TX6, 6, tyX6, zc6, by decide, zT1 56 (by decide +kernel) rfl, rfl, rfl⟩
theorem f_RX7_90 : zFld RX7 90 6 5 (.array .int) true := ⟨RX6, TX6, 6, tyX6, zc6, by decide, zT1 57 (by decide +kernel) rfl, rfl, rfl⟩
theorem f_RX0_23 : zFld RX0 23 0 0 (.long) false := ⟨RX0, TX0, 2, tyX0, zc0, by decide, zT1 84 (by decide +kernel) rfl, rfl, rfl⟩
theorem f_RX4_78 : zFld RX4 78 0 0 (.long) false := ⟨RX0, TX0, 2, tyX0, zc0, by decide, zT1 85 (by decide +kernel) rfl, rfl, rfl⟩
theorem f_RX7_83 : zFld RX7 83 0 0 (.long) false := ⟨RX0, TX0, 2, tyX0, zc0, by decide, zT1 86 (by decide +kernel) rfl, rfl, rfl⟩
theorem f_RX9_213 : zFld RX9 213 0 0 (.long) false := ⟨RX0, TX0, 2, tyX0, zc0, by decide, zT1 87 (by decide +kernel) rfl, rfl, rfl⟩
theorem f_RX0_9 : zFld RX0 9 0 1 (.long) false := ⟨RX0, TX0, 2, tyX0, zc0, by decide, zT1 88 (by decide +kernel) rfl, rfl, rfl⟩
theorem f_RX4_82 : zFld RX4 82 0 1 (.long) false := ⟨RX0, TX0, 2, tyX0, zc0, by decide, zT1 89 (by decide +kernel) rfl, rfl, rfl⟩
theorem f_RX7_93 : zFld RX7 93 0 1 (.long) false := ⟨RX0, TX0, 2, tyX0, zc0, by decide, zT1 90 (by decide +kernel) rfl, rfl, rfl⟩
theorem f_RX9_210 : zFld RX9 210 0 1 (.long) false := ⟨RX0, TX0, 2, tyX0, zc0, by decide, zT1 91 (by decide +kernel) rfl, rfl, rfl⟩
theorem f_RX7_9 : zFld RX7 9 7 0 (.array .long) true := ⟨RX7, TX7, 5, tyX7, zc7, by decide, zT1 98 (by decide +kernel) rfl, rfl, rfl⟩
theorem f_RX3_26 : zFld RX3 26 7 0 (.array .long) true := ⟨RX7, TX7, 5, tyX7, zc7, by decide, zT1 99 (by decide +kernel) rfl, rfl, rfl⟩
theorem f_RX4_92 : zFld RX4 92 7 0 (.array .long) true := ⟨RX7, TX7, 5, tyX7, zc7, by decide, zT1 100 (by decide +kernel) rfl, rfl, rfl⟩
theorem f_RX9_192 : zFld RX9 192 7 0 (.array .long) true := ⟨RX7, TX7, 5, tyX7, zc7, by decide, zT1 101 (by decide +kernel) rfl, rfl, rfl⟩
theorem f_RX7_15 : zFld RX7 15 7 1 (.array .long) true := ⟨RX7, TX7, 5, tyX7, zc7, by decide, zT1 102 (by decide +kernel) rfl, rfl, rfl⟩
theorem f_RX3_29 : zFld RX3 29 7 1 (.array .long) true := ⟨RX7, TX7, 5, tyX7, zc7, by decide, zT1 103 (by decide +kernel) rfl, rfl, rfl⟩
theorem f_RX4_95 : zFld RX4 95 7 1 (.array .long) true := ⟨RX7, TX7, 5, tyX7, zc7, by decide, zT1 104 (by decide +kernel) rfl, rfl, rfl⟩
theorem f_RX9_196 : zFld RX9 196 7 1 (.array .long) true := ⟨RX7, TX7, 5, tyX7, zc7, by decide, zT1 105 (by decide +kernel) rfl, rfl, rfl⟩
theorem f_RX7_34 : zFld RX7 34 7 2 (.int) false := ⟨RX7, TX7, 5, tyX7, zc7, by decide, zT1 106 (by decide +kernel) rfl, rfl, rfl⟩
theorem f_RX9_171 : zFld RX9 171 7 2 (.int) false := ⟨RX7, TX7, 5, tyX7, zc7, by decide, zT1 107 (by decide +kernel) rfl, rfl, rfl⟩
theorem f_RX7_21 : zFld RX7 21 7 3 (.object "RakeTables$Fraction") true := ⟨RX7, TX7, 5, tyX7, zc7, by decide, zT1 108 (by decide +kernel) rfl, rfl, rfl⟩
theorem f_RX7_25 : zFld RX7 25 7 4 (.object "RakeTables$Fraction") true := ⟨RX7, TX7, 5, tyX7, zc7, by decide, zT1 109 (by decide +kernel) rfl, rfl, rfl⟩
theorem f_RX1_15 : zFld RX1 15 1 0 (.int) true := ⟨RX1, TX1, 4, tyX1, zc1, by decide, zT1 130 (by decide +kernel) rfl, rfl, rfl⟩
theorem f_RX1_28 : zFld RX1 28 1 1 (.int) false := ⟨RX1, TX1, 4, tyX1, zc1, by decide, zT1 131 (by decide +kernel) rfl, rfl, rfl⟩
theorem f_RX9_304 : zFld RX9 304 1 1 (.int) false := ⟨RX1, TX1, 4, tyX1, zc1, by decide, zT1 132 (by decide +kernel) rfl, rfl, rfl⟩
theorem f_RX1_21 : zFld RX1 21 1 2 (.array .int) true := ⟨RX1, TX1, 4, tyX1, zc1, by decide, zT1 133 (by decide +kernel) rfl, rfl, rfl⟩
theorem f_RX9_306 : zFld RX9 306 1 2 (.array .int) true := ⟨RX1, TX1, 4, tyX1, zc1, by decide, zT1 134 (by decide +kernel) rfl, rfl, rfl⟩
theorem f_RX1_25 : zFld RX1 25 1 3 (.array .int) true := ⟨RX1, TX1, 4, tyX1, zc1, by decide, zT1 135 (by decide +kernel) rfl, rfl, rfl⟩
theorem f_RX9_309 : zFld RX9 309 1 3 (.array .int) true := ⟨RX1, TX1, 4, tyX1, zc1, by decide, zT1 136 (by decide +kernel) rfl, rfl, rfl⟩
theorem f_RX2_12 : zFld RX2 12 2 0 (.object "RakeTables$Setting") true := ⟨RX2, TX2, 5, tyX2, zc2, by decide, zT1 146 (by decide +kernel) rfl, rfl, rfl⟩
theorem f_RX9_83 : zFld RX9 83 2 0 (.object "RakeTables$Setting") true := ⟨RX2, TX2, 5, tyX2, zc2, by decide, zT1 147 (by decide +kernel) rfl, rfl, rfl⟩
theorem f_RX2_21 : zFld RX2 21 2 1 (.object "RakeTables$Table") true := ⟨RX2, TX2, 5, tyX2, zc2, by decide, zT1 148 (by decide +kernel) rfl, rfl, rfl⟩
theorem f_RX9_102 : zFld RX9 102 2 1 (.object "RakeTables$Table") true := ⟨RX2, TX2, 5, tyX2, zc2, by decide, zT1 149 (by decide +kernel) rfl, rfl, rfl⟩
theorem f_RX2_30 : zFld RX2 30 2 2 (.object "RakeTables$Notes") true := ⟨RX2, TX2, 5, tyX2, zc2, by decide, zT1 150 (by decide +kernel) rfl, rfl, rfl⟩
theorem f_RX9_280 : zFld RX9 280 2 2 (.object "RakeTables$Notes") true := ⟨RX2, TX2, 5, tyX2, zc2, by decide, zT1 151 (by decide +kernel) rfl, rfl, rfl⟩
theorem f_RX2_34 : zFld RX2 34 2 3 (.object "RakeTables$Notes") true := ⟨RX2, TX2, 5, tyX2, zc2, by decide, zT1 152 (by decide +kernel) rfl, rfl, rfl⟩
theorem f_RX9_314 : zFld RX9 314 2 3 (.object "RakeTables$Notes") true := ⟨RX2, TX2, 5, tyX2, zc2, by decide, zT1 153 (by decide +kernel) rfl, rfl, rfl⟩
theorem f_RX2_37 : zFld RX2 37 2 4 (.object "RakeTables$Notes") true := ⟨RX2, TX2, 5, tyX2, zc2, by decide, zT1 154 (by decide +kernel) rfl, rfl, rfl⟩
theorem f_RX9_323 : zFld RX9 323 2 4 (.object "RakeTables$Notes") true := ⟨RX2, TX2, 5, tyX2, zc2, by decide, zT1 155 (by decide +kernel) rfl, rfl, rfl⟩
theorem f_RX5_9 : zFld RX5 9 5 0 (.array .int) true := ⟨RX5, TX5, 2, tyX5, zc5, by decide, zT1 173 (by decide +kernel) rfl, rfl, rfl⟩
theorem f_RX5_15 : zFld RX5 15 5 1 (.int) false := ⟨RX5, TX5, 2, tyX5, zc5, by decide, zT1 174 (by decide +kernel) rfl, rfl, rfl⟩
theorem f_RX9_136 : zFld RX9 136 5 1 (.int) false := ⟨RX5, TX5, 2, tyX5, zc5, by decide, zT1 175 (by decide +kernel) rfl, rfl, rfl⟩
theorem f_RX8_11 : zFld RX8 11 8 0 (.array (.array .long)) true := ⟨RX8, TX8, 3, tyX8, zc8, by decide, zT1 189 (by decide +kernel) rfl, rfl, rfl⟩
theorem f_RX8_14 : zFld RX8 14 8 1 (.array .int) true := ⟨RX8, TX8, 3, tyX8, zc8, by decide, zT1 190 (by decide +kernel) rfl, rfl, rfl⟩
theorem f_RX8_18 : zFld RX8 18 8 2 (.array .int) true := ⟨RX8, TX8, 3, tyX8, zc8, by decide, zT1 191 (by decide +kernel) rfl, rfl, rfl⟩
theorem f_RX4_9 : zFld RX4 9 4 0 (.array .int) true := ⟨RX4, TX4, 9, tyX4, zc4, by decide, zT1 207 (by decide +kernel) rfl, rfl, rfl⟩
theorem f_RX9_253 : zFld RX9 253 4 0 (.array .int) true := ⟨RX4, TX4, 9, tyX4, zc4, by decide, zT1 208 (by decide +kernel) rfl, rfl, rfl⟩
theorem f_RX4_15 : zFld RX4 15 4 1 (.array .int) true := ⟨RX4, TX4, 9, tyX4, zc4, by decide, zT1 209 (by decide +kernel) rfl, rfl, rfl⟩
theorem f_RX4_18 : zFld RX4 18 4 2 (.array .int) true := ⟨RX4, TX4, 9, tyX4, zc4, by decide, zT1 210 (by decide +kernel) rfl, rfl, rfl⟩
theorem f_RX4_21 : zFld RX4 21 4 3 (.array .int) true := ⟨RX4, TX4, 9, tyX4, zc4, by decide, zT1 211 (by decide +kernel) rfl, rfl, rfl⟩
theorem f_RX4_24 : zFld RX4 24 4 4 (.array .int) true := ⟨RX4, TX4, 9, tyX4, zc4, by decide, zT1 212 (by decide +kernel) rfl, rfl, rfl⟩
theorem f_RX4_30 : zFld RX4 30 4 5 (.object "RakeTables$Fraction") true := ⟨RX4, TX4, 9, tyX4, zc4, by decide, zT1 213 (by decide +kernel) rfl, rfl, rfl⟩
theorem f_RX4_34 : zFld RX4 34 4 6 (.object "RakeTables$Fraction") true := ⟨RX4, TX4, 9, tyX4, zc4, by decide, zT1 214 (by decide +kernel) rfl, rfl, rfl⟩
theorem f_RX4_43 : zFld RX4 43 4 7 (.int) false := ⟨RX4, TX4, 9, tyX4, zc4, by decide, zT1 215 (by decide +kernel) rfl, rfl, rfl⟩
theorem f_RX4_47 : zFld RX4 47 4 8 (.int) false := ⟨RX4, TX4, 9, tyX4, zc4, by decide, zT1 216 (by decide +kernel) rfl, rfl, rfl⟩
theorem f_RX3_11 : zFld RX3 11 3 0 (.array .long) true := ⟨RX3, TX3, 4, tyX3, zc3, by decide, zT2 8 (by decide +kernel) rfl, rfl, rfl⟩
theorem f_RX3_15 : zFld RX3 15 3 1 (.array .long) true := ⟨RX3, TX3, 4, tyX3, zc3, by decide, zT2 9 (by decide +kernel) rfl, rfl, rfl⟩
theorem f_RX3_18 : zFld RX3 18 3 2 (.int) false := ⟨RX3, TX3, 4, tyX3, zc3, by decide, zT2 10 (by decide +kernel) rfl, rfl, rfl⟩
theorem f_RX3_22 : zFld RX3 22 3 3 (.boolean) false := ⟨RX3, TX3, 4, tyX3, zc3, by decide, zT2 11 (by decide +kernel) rfl, rfl, rfl⟩
theorem f_RX9_12 : zFld RX9 12 9 0 (.object "RakeTables$Picture") true := ⟨RX9, TX9, 13, tyX9, zc9, by decide, zT2 21 (by decide +kernel) rfl, rfl, rfl⟩
theorem f_RX9_18 : zFld RX9 18 9 1 (.object "RakeTables$Picture") true := ⟨RX9, TX9, 13, tyX9, zc9, by decide, zT2 22 (by decide +kernel) rfl, rfl, rfl⟩
theorem f_RX9_346 : zFld RX9 346 9 2 (.boolean) false := ⟨RX9, TX9, 13, tyX9, zc9, by decide, zT2 23 (by decide +kernel) rfl, rfl, rfl⟩
theorem f_RX9_24 : zFld RX9 24 9 3 (.object "RakeTables$Script") true := ⟨RX9, TX9, 13, tyX9, zc9, by decide, zT2 24 (by decide +kernel) rfl, rfl, rfl⟩
theorem f_RX9_31 : zFld RX9 31 9 4 (.object "RakeTables$Tapes") true := ⟨RX9, TX9, 13, tyX9, zc9, by decide, zT2 25 (by decide +kernel) rfl, rfl, rfl⟩
theorem f_RX9_38 : zFld RX9 38 9 5 (.object "RakeTables$Rounding") true := ⟨RX9, TX9, 13, tyX9, zc9, by decide, zT2 26 (by decide +kernel) rfl, rfl, rfl⟩
theorem f_RX9_45 : zFld RX9 45 9 6 (.object "RakeTables$Setting") true := ⟨RX9, TX9, 13, tyX9, zc9, by decide, zT2 27 (by decide +kernel) rfl, rfl, rfl⟩
theorem f_RX9_52 : zFld RX9 52 9 7 (.object "RakeTables$Table") true := ⟨RX9, TX9, 13, tyX9, zc9, by decide, zT2 28 (by decide +kernel) rfl, rfl, rfl⟩
theorem f_RX9_56 : zFld RX9 56 9 8 (.object "RakeTables$Table") true := ⟨RX9, TX9, 13, tyX9, zc9, by decide, zT2 29 (by decide +kernel) rfl, rfl, rfl⟩
theorem f_RX9_62 : zFld RX9 62 9 9 (.object "RakeTables$Fraction") true := ⟨RX9, TX9, 13, tyX9, zc9, by decide, zT2 30 (by decide +kernel) rfl, rfl, rfl⟩
theorem f_RX9_66 : zFld RX9 66 9 10 (.object "RakeTables$Fraction") true := ⟨RX9, TX9, 13, tyX9, zc9, by decide, zT2 31 (by decide +kernel) rfl, rfl, rfl⟩
theorem f_RX9_69 : zFld RX9 69 9 11 (.object "RakeTables$Fraction") true := ⟨RX9, TX9, 13, tyX9, zc9, by decide, zT2 32 (by decide +kernel) rfl, rfl, rfl⟩
theorem f_RX9_75 : zFld RX9 75 9 12 (.object "RakeTables$Quotient") true := ⟨RX9, TX9, 13, tyX9, zc9, by decide, zT2 33 (by decide +kernel) rfl, rfl, rfl⟩
theorem f_RX10_11 : zFld RX10 11 10 0 (.array .int) true := ⟨RX10, TX10, 25, tyX10, zc10, by decide, zT4 134 (by decide +kernel) rfl, rfl, rfl⟩
theorem f_RX10_15 : zFld RX10 15 10 1 (.array .int) true := ⟨RX10, TX10, 25, tyX10, zc10, by decide, zT4 135 (by decide +kernel) rfl, rfl, rfl⟩
theorem f_RX10_18 : zFld RX10 18 10 2 (.array .int) true := ⟨RX10, TX10, 25, tyX10, zc10, by decide, zT4 136 (by decide +kernel) rfl, rfl, rfl⟩
theorem f_RX10_299 : zFld RX10 299 10 3 (.boolean) false := ⟨RX10, TX10, 25, tyX10, zc10, by decide, zT4 137 (by decide +kernel) rfl, rfl, rfl⟩
theorem f_RX10_21 : zFld RX10 21 10 4 (.array .int) true := ⟨RX10, TX10, 25, tyX10, zc10, by decide, zT4 138 (by decide +kernel) rfl, rfl, rfl⟩
theorem f_RX10_107 : zFld RX10 107 10 5 (.int) false := ⟨RX10, TX10, 25, tyX10, zc10, by decide, zT4 139 (by decide +kernel) rfl, rfl, rfl⟩
theorem f_RX10_24 : zFld RX10 24 10 6 (.array .int) true := ⟨RX10, TX10, 25, tyX10, zc10, by decide, zT4 140 (by decide +kernel) rfl, rfl, rfl⟩
theorem f_RX10_147 : zFld RX10 147 10 7 (.long) false := ⟨RX10, TX10, 25, tyX10, zc10, by decide, zT4 141 (by decide +kernel) rfl, rfl, rfl⟩
theorem f_RX10_151 : zFld RX10 151 10 8 (.long) false := ⟨RX10, TX10, 25, tyX10, zc10, by decide, zT4 142 (by decide +kernel) rfl, rfl, rfl⟩
theorem f_RX10_27 : zFld RX10 27 10 9 (.array .int) true := ⟨RX10, TX10, 25, tyX10, zc10, by decide, zT4 143 (by decide +kernel) rfl, rfl, rfl⟩
theorem f_RX10_30 : zFld RX10 30 10 10 (.array .int) true := ⟨RX10, TX10, 25, tyX10, zc10, by decide, zT4 144 (by decide +kernel) rfl, rfl, rfl⟩
theorem f_RX10_33 : zFld RX10 33 10 11 (.array .int) true := ⟨RX10, TX10, 25, tyX10, zc10, by decide, zT4 145 (by decide +kernel) rfl, rfl, rfl⟩
theorem f_RX10_196 : zFld RX10 196 10 12 (.long) false := ⟨RX10, TX10, 25, tyX10, zc10, by decide, zT4 146 (by decide +kernel) rfl, rfl, rfl⟩
theorem f_RX10_199 : zFld RX10 199 10 13 (.long) false := ⟨RX10, TX10, 25, tyX10, zc10, by decide, zT4 147 (by decide +kernel) rfl, rfl, rfl⟩
theorem f_RX10_36 : zFld RX10 36 10 14 (.array .int) true := ⟨RX10, TX10, 25, tyX10, zc10, by decide, zT4 148 (by decide +kernel) rfl, rfl, rfl⟩
theorem f_RX10_39 : zFld RX10 39 10 15 (.array .int) true := ⟨RX10, TX10, 25, tyX10, zc10, by decide, zT4 149 (by decide +kernel) rfl, rfl, rfl⟩
theorem f_RX10_235 : zFld RX10 235 10 16 (.int) false := ⟨RX10, TX10, 25, tyX10, zc10, by decide, zT4 150 (by decide +kernel) rfl, rfl, rfl⟩
theorem f_RX10_238 : zFld RX10 238 10 17 (.int) false := ⟨RX10, TX10, 25, tyX10, zc10, by decide, zT4 151 (by decide +kernel) rfl, rfl, rfl⟩
theorem f_RX10_42 : zFld RX10 42 10 18 (.array .int) true := ⟨RX10, TX10, 25, tyX10, zc10, by decide, zT4 152 (by decide +kernel) rfl, rfl, rfl⟩
theorem f_RX10_45 : zFld RX10 45 10 19 (.array .long) true := ⟨RX10, TX10, 25, tyX10, zc10, by decide, zT4 153 (by decide +kernel) rfl, rfl, rfl⟩
theorem f_RX10_49 : zFld RX10 49 10 20 (.array .long) true := ⟨RX10, TX10, 25, tyX10, zc10, by decide, zT4 154 (by decide +kernel) rfl, rfl, rfl⟩
theorem f_RX10_52 : zFld RX10 52 10 21 (.array .int) true := ⟨RX10, TX10, 25, tyX10, zc10, by decide, zT4 155 (by decide +kernel) rfl, rfl, rfl⟩
theorem f_RX10_55 : zFld RX10 55 10 22 (.array .int) true := ⟨RX10, TX10, 25, tyX10, zc10, by decide, zT4 156 (by decide +kernel) rfl, rfl, rfl⟩
theorem f_RX10_58 : zFld RX10 58 10 23 (.array .long) true := ⟨RX10, TX10, 25, tyX10, zc10, by decide, zT4 157 (by decide +kernel) rfl, rfl, rfl⟩
theorem f_RX10_61 : zFld RX10 61 10 24 (.array .long) true := ⟨RX10, TX10, 25, tyX10, zc10, by decide, zT4 158 (by decide +kernel) rfl, rfl, rfl⟩
theorem q_RX0_26 : Cond.constantLong RX0 26 (999999) ∈ zTb := zT2 226 (by decide +kernel) rfl
theorem q_RX9_190 : Cond.constantLong RX9 190 (-9223372036854775808) ∈ zTb := zT3 7 (by decide +kernel) rfl
theorem q_RX0_28 : Cond.constantLong RX0 28 (-9223372036854775808) ∈ zTb := zT3 17 (by decide +kernel) rfl
theorem q_RJ6_265 : Cond.constant RJ6 265 (1431655765) ∈ zTb := zT3 62 (by decide +kernel) rfl
theorem q_RJ6_266 : Cond.constant RJ6 266 (858993459) ∈ zTb := zT3 63 (by decide +kernel) rfl
theorem q_RJ6_267 : Cond.constant RJ6 267 (252645135) ∈ zTb := zT3 64 (by decide +kernel) rfl
theorem q_RX3_34 : Cond.constantLong RX3 34 (-9223372036854775808) ∈ zTb := zT3 159 (by decide +kernel) rfl
theorem q_RX0_30 : Cond.constantLong RX0 30 (9223372036854775807) ∈ zTb := zT3 172 (by decide +kernel) rfl
theorem q_RX9_312 : Cond.constantLong RX9 312 (10) ∈ zTb := zT3 230 (by decide +kernel) rfl
theorem q_RX10_86 : Cond.constantLong RX10 86 (3) ∈ zTb := zT4 126 (by decide +kernel) rfl
theorem q_RX10_92 : Cond.constantLong RX10 92 (20) ∈ zTb := zT4 220 (by decide +kernel) rfl
theorem q_RX10_76 : Cond.constantLong RX10 76 (2) ∈ zTb := zT4 225 (by decide +kernel) rfl
theorem q_RX10_100 : Cond.constantLong RX10 100 (60) ∈ zTb := zT5 2 (by decide +kernel) rfl
theorem q_RX10_105 : Cond.constantLong RX10 105 (127) ∈ zTb := zT5 23 (by decide +kernel) rfl
theorem q_RX10_111 : Cond.constantLong RX10 111 (48) ∈ zTb := zT5 46 (by decide +kernel) rfl
theorem q_RX10_113 : Cond.constantLong RX10 113 (57) ∈ zTb := zT5 47 (by decide +kernel) rfl
theorem q_RX10_154 : Cond.constantLong RX10 154 (999999) ∈ zTb := zT5 86 (by decide +kernel) rfl
theorem q_RX10_190 : Cond.constantLong RX10 190 (-9223372036854775808) ∈ zTb := zT5 107 (by decide +kernel) rfl
theorem q_RX10_256 : Cond.constantLong RX10 256 (9223372036854775807) ∈ zTb := zT5 207 (by decide +kernel) rfl
theorem q_RX10_285 : Cond.constantLong RX10 285 (10) ∈ zTb := zT6 12 (by decide +kernel) rfl
theorem q_RX10_306 : Cond.constantLong RX10 306 (5) ∈ zTb := zT6 65 (by decide +kernel) rfl
theorem q_RX10_311 : Cond.constantLong RX10 311 (-1) ∈ zTb := zT6 66 (by decide +kernel) rfl
theorem q_RX10_313 : Cond.constantLong RX10 313 (4) ∈ zTb := zT6 67 (by decide +kernel) rfl
theorem q_RL_162 : Cond.constantLong RL 162 (4294967295) ∈ zTb := zT6 91 (by decide +kernel) rfl
theorem lc_RX7_38 : Cond.methodLink RX7 38 arraycopyName ∈ zTb := zT2 189 (by decide +kernel) rfl
theorem lc_RX6_36 : Cond.methodLink RX6 36 arraycopyName ∈ zTb := zT3 221 (by decide +kernel) rfl
theorem lc_RX8_25 : Cond.methodLink RX8 25 arraycopyName ∈ zTb := zT4 115 (by decide +kernel) rfl
theorem lc_RX10_177 : Cond.methodLink RX10 177 arraycopyName ∈ zTb := zT5 99 (by decide +kernel) rfl
theorem zSta : Cond.static arraycopyName ∈ zTb := zT2 190 (by decide +kernel) rfl
theorem zNat : Cond.native arraycopyName ∈ zTb := zT2 191 (by decide +kernel) rfl
theorem zIni : Cond.initialized "java/lang/System" ∈ zTb := zT1 13 (by decide +kernel) rfl
