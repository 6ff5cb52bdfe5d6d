theorem dX10_init_0 : decode cX10_init 0 = .ok (.aload_n 0, 1) := by decide +kernel
theorem dX10_init_1 : decode cX10_init 1 = .ok (.invokespecial 5, 3) := by decide +kernel
theorem dX10_init_4 : decode cX10_init 4 = .ok (.aload_n 0, 1) := by decide +kernel
theorem dX10_init_5 : decode cX10_init 5 = .ok (.bipush 73, 2) := by decide +kernel
theorem dX10_init_7 : decode cX10_init 7 = .ok (.newarray .int, 2) := by decide +kernel
theorem dX10_init_9 : decode cX10_init 9 = .ok (.putfield 11, 3) := by decide +kernel
theorem dX10_init_12 : decode cX10_init 12 = .ok (.aload_n 0, 1) := by decide +kernel
theorem dX10_init_13 : decode cX10_init 13 = .ok (.bipush 73, 2) := by decide +kernel
theorem dX10_init_15 : decode cX10_init 15 = .ok (.newarray .int, 2) := by decide +kernel
theorem dX10_init_17 : decode cX10_init 17 = .ok (.putfield 15, 3) := by decide +kernel
theorem dX10_init_20 : decode cX10_init 20 = .ok (.aload_n 0, 1) := by decide +kernel
theorem dX10_init_21 : decode cX10_init 21 = .ok (.bipush 73, 2) := by decide +kernel
theorem dX10_init_23 : decode cX10_init 23 = .ok (.newarray .int, 2) := by decide +kernel
theorem dX10_init_25 : decode cX10_init 25 = .ok (.putfield 18, 3) := by decide +kernel
theorem dX10_init_28 : decode cX10_init 28 = .ok (.aload_n 0, 1) := by decide +kernel
theorem dX10_init_29 : decode cX10_init 29 = .ok (.bipush 100, 2) := by decide +kernel
theorem dX10_init_31 : decode cX10_init 31 = .ok (.newarray .int, 2) := by decide +kernel
theorem dX10_init_33 : decode cX10_init 33 = .ok (.putfield 21, 3) := by decide +kernel
theorem dX10_init_36 : decode cX10_init 36 = .ok (.aload_n 0, 1) := by decide +kernel
theorem dX10_init_37 : decode cX10_init 37 = .ok (.bipush 48, 2) := by decide +kernel
theorem dX10_init_39 : decode cX10_init 39 = .ok (.newarray .int, 2) := by decide +kernel
theorem dX10_init_41 : decode cX10_init 41 = .ok (.putfield 24, 3) := by decide +kernel
theorem dX10_init_44 : decode cX10_init 44 = .ok (.aload_n 0, 1) := by decide +kernel
theorem dX10_init_45 : decode cX10_init 45 = .ok (.bipush 9, 2) := by decide +kernel
theorem dX10_init_47 : decode cX10_init 47 = .ok (.newarray .int, 2) := by decide +kernel
theorem dX10_init_49 : decode cX10_init 49 = .ok (.putfield 27, 3) := by decide +kernel
theorem dX10_init_52 : decode cX10_init 52 = .ok (.aload_n 0, 1) := by decide +kernel
theorem dX10_init_53 : decode cX10_init 53 = .ok (.bipush 9, 2) := by decide +kernel
theorem dX10_init_55 : decode cX10_init 55 = .ok (.newarray .int, 2) := by decide +kernel
theorem dX10_init_57 : decode cX10_init 57 = .ok (.putfield 30, 3) := by decide +kernel
theorem dX10_init_60 : decode cX10_init 60 = .ok (.aload_n 0, 1) := by decide +kernel
theorem dX10_init_61 : decode cX10_init 61 = .ok (.bipush 18, 2) := by decide +kernel
theorem dX10_init_63 : decode cX10_init 63 = .ok (.newarray .int, 2) := by decide +kernel
theorem dX10_init_65 : decode cX10_init 65 = .ok (.putfield 33, 3) := by decide +kernel
theorem dX10_init_68 : decode cX10_init 68 = .ok (.aload_n 0, 1) := by decide +kernel
theorem dX10_init_69 : decode cX10_init 69 = .ok (.bipush 6, 2) := by decide +kernel
theorem dX10_init_71 : decode cX10_init 71 = .ok (.newarray .int, 2) := by decide +kernel
theorem dX10_init_73 : decode cX10_init 73 = .ok (.putfield 36, 3) := by decide +kernel
theorem dX10_init_76 : decode cX10_init 76 = .ok (.aload_n 0, 1) := by decide +kernel
theorem dX10_init_77 : decode cX10_init 77 = .ok (.bipush 6, 2) := by decide +kernel
theorem dX10_init_79 : decode cX10_init 79 = .ok (.newarray .int, 2) := by decide +kernel
theorem dX10_init_81 : decode cX10_init 81 = .ok (.putfield 39, 3) := by decide +kernel
theorem dX10_init_84 : decode cX10_init 84 = .ok (.aload_n 0, 1) := by decide +kernel
theorem dX10_init_85 : decode cX10_init 85 = .ok (.bipush 9, 2) := by decide +kernel
theorem dX10_init_87 : decode cX10_init 87 = .ok (.newarray .int, 2) := by decide +kernel
theorem dX10_init_89 : decode cX10_init 89 = .ok (.putfield 42, 3) := by decide +kernel
theorem dX10_init_92 : decode cX10_init 92 = .ok (.aload_n 0, 1) := by decide +kernel
theorem dX10_init_93 : decode cX10_init 93 = .ok (.iconst 4, 1) := by decide +kernel
theorem dX10_init_94 : decode cX10_init 94 = .ok (.newarray .long, 2) := by decide +kernel
theorem dX10_init_96 : decode cX10_init 96 = .ok (.putfield 45, 3) := by decide +kernel
theorem dX10_init_99 : decode cX10_init 99 = .ok (.aload_n 0, 1) := by decide +kernel
theorem dX10_init_100 : decode cX10_init 100 = .ok (.iconst 4, 1) := by decide +kernel
theorem dX10_init_101 : decode cX10_init 101 = .ok (.newarray .long, 2) := by decide +kernel
theorem dX10_init_103 : decode cX10_init 103 = .ok (.putfield 49, 3) := by decide +kernel
theorem dX10_init_106 : decode cX10_init 106 = .ok (.aload_n 0, 1) := by decide +kernel
theorem dX10_init_107 : decode cX10_init 107 = .ok (.bipush 6, 2) := by decide +kernel
theorem dX10_init_109 : decode cX10_init 109 = .ok (.newarray .int, 2) := by decide +kernel
theorem dX10_init_111 : decode cX10_init 111 = .ok (.putfield 52, 3) := by decide +kernel
theorem dX10_init_114 : decode cX10_init 114 = .ok (.aload_n 0, 1) := by decide +kernel
theorem dX10_init_115 : decode cX10_init 115 = .ok (.bipush 6, 2) := by decide +kernel
theorem dX10_init_117 : decode cX10_init 117 = .ok (.newarray .int, 2) := by decide +kernel
theorem dX10_init_119 : decode cX10_init 119 = .ok (.putfield 55, 3) := by decide +kernel
theorem dX10_init_122 : decode cX10_init 122 = .ok (.aload_n 0, 1) := by decide +kernel
theorem dX10_init_123 : decode cX10_init 123 = .ok (.sipush 360, 3) := by decide +kernel
theorem dX10_init_126 : decode cX10_init 126 = .ok (.newarray .long, 2) := by decide +kernel
theorem dX10_init_128 : decode cX10_init 128 = .ok (.putfield 58, 3) := by decide +kernel
theorem dX10_init_131 : decode cX10_init 131 = .ok (.aload_n 0, 1) := by decide +kernel
theorem dX10_init_132 : decode cX10_init 132 = .ok (.bipush 60, 2) := by decide +kernel
theorem dX10_init_134 : decode cX10_init 134 = .ok (.newarray .long, 2) := by decide +kernel
theorem dX10_init_136 : decode cX10_init 136 = .ok (.putfield 61, 3) := by decide +kernel
theorem dX10_init_139 : decode cX10_init 139 = .ok (.iconst 0, 1) := by decide +kernel
theorem dX10_init_140 : decode cX10_init 140 = .ok (.istore_n 1, 1) := by decide +kernel
theorem dX10_init_141 : decode cX10_init 141 = .ok (.iload_n 1, 1) := by decide +kernel
theorem dX10_init_142 : decode cX10_init 142 = .ok (.bipush 6, 2) := by decide +kernel
theorem dX10_init_144 : decode cX10_init 144 = .ok (.if_icmp .ge 16, 3) := by decide +kernel
theorem dX10_init_147 : decode cX10_init 147 = .ok (.aload_n 0, 1) := by decide +kernel
theorem dX10_init_148 : decode cX10_init 148 = .ok (.getfield 52, 3) := by decide +kernel
theorem dX10_init_151 : decode cX10_init 151 = .ok (.iload_n 1, 1) := by decide +kernel
theorem dX10_init_152 : decode cX10_init 152 = .ok (.iconst (-1), 1) := by decide +kernel
theorem dX10_init_153 : decode cX10_init 153 = .ok (.iastore, 1) := by decide +kernel
theorem dX10_init_154 : decode cX10_init 154 = .ok (.iinc 1 1, 3) := by decide +kernel
theorem dX10_init_157 : decode cX10_init 157 = .ok (.goto (-16), 3) := by decide +kernel
theorem dX10_init_160 : decode cX10_init 160 = .ok (.aload_n 0, 1) := by decide +kernel
theorem dX10_init_161 : decode cX10_init 161 = .ok (.iconst 2, 1) := by decide +kernel
theorem dX10_init_162 : decode cX10_init 162 = .ok (.iconst 2, 1) := by decide +kernel
theorem dX10_init_163 : decode cX10_init 163 = .ok (.invokevirtual 64, 3) := by decide +kernel
theorem dX10_init_166 : decode cX10_init 166 = .ok (.pop, 1) := by decide +kernel
theorem dX10_init_167 : decode cX10_init 167 = .ok (.return_, 1) := by decide +kernel
theorem dX10_within_0 : decode cX10_within 0 = .ok (.lload_n 0, 1) := by decide +kernel
theorem dX10_within_1 : decode cX10_within 1 = .ok (.lload_n 2, 1) := by decide +kernel
theorem dX10_within_2 : decode cX10_within 2 = .ok (.lcmp, 1) := by decide +kernel
theorem dX10_within_3 : decode cX10_within 3 = .ok (.ifCond .lt 14, 3) := by decide +kernel
theorem dX10_within_6 : decode cX10_within 6 = .ok (.lload_n 0, 1) := by decide +kernel
theorem dX10_within_7 : decode cX10_within 7 = .ok (.lload 4, 2) := by decide +kernel
theorem dX10_within_9 : decode cX10_within 9 = .ok (.lcmp, 1) := by decide +kernel
theorem dX10_within_10 : decode cX10_within 10 = .ok (.ifCond .gt 7, 3) := by decide +kernel
theorem dX10_within_13 : decode cX10_within 13 = .ok (.iconst 1, 1) := by decide +kernel
theorem dX10_within_14 : decode cX10_within 14 = .ok (.goto 4, 3) := by decide +kernel
theorem dX10_within_17 : decode cX10_within 17 = .ok (.iconst 0, 1) := by decide +kernel
theorem dX10_within_18 : decode cX10_within 18 = .ok (.ireturn, 1) := by decide +kernel
theorem dX10_isPart_0 : decode cX10_isPart 0 = .ok (.iload_n 0, 1) := by decide +kernel
theorem dX10_isPart_1 : decode cX10_isPart 1 = .ok (.ifCond .eq 8, 3) := by decide +kernel
theorem dX10_isPart_4 : decode cX10_isPart 4 = .ok (.iload_n 0, 1) := by decide +kernel
theorem dX10_isPart_5 : decode cX10_isPart 5 = .ok (.iconst 1, 1) := by decide +kernel
theorem dX10_isPart_6 : decode cX10_isPart 6 = .ok (.if_icmp .ne 7, 3) := by decide +kernel
theorem dX10_isPart_9 : decode cX10_isPart 9 = .ok (.iconst 1, 1) := by decide +kernel
theorem dX10_isPart_10 : decode cX10_isPart 10 = .ok (.goto 4, 3) := by decide +kernel
theorem dX10_isPart_13 : decode cX10_isPart 13 = .ok (.iconst 0, 1) := by decide +kernel
theorem dX10_isPart_14 : decode cX10_isPart 14 = .ok (.ireturn, 1) := by decide +kernel
theorem dX10_isCell_0 : decode cX10_isCell 0 = .ok (.iload_n 1, 1) := by decide +kernel
theorem dX10_isCell_1 : decode cX10_isCell 1 = .ok (.i2l, 1) := by decide +kernel
theorem dX10_isCell_2 : decode cX10_isCell 2 = .ok (.lconst 0, 1) := by decide +kernel
theorem dX10_isCell_3 : decode cX10_isCell 3 = .ok (.aload_n 0, 1) := by decide +kernel
theorem dX10_isCell_4 : decode cX10_isCell 4 = .ok (.getfield 11, 3) := by decide +kernel
theorem dX10_isCell_7 : decode cX10_isCell 7 = .ok (.iconst 0, 1) := by decide +kernel
theorem dX10_isCell_8 : decode cX10_isCell 8 = .ok (.iaload, 1) := by decide +kernel
theorem dX10_isCell_9 : decode cX10_isCell 9 = .ok (.iconst 1, 1) := by decide +kernel
theorem dX10_isCell_10 : decode cX10_isCell 10 = .ok (.isub, 1) := by decide +kernel
theorem dX10_isCell_11 : decode cX10_isCell 11 = .ok (.i2l, 1) := by decide +kernel
theorem dX10_isCell_12 : decode cX10_isCell 12 = .ok (.invokestatic 68, 3) := by decide +kernel
theorem dX10_isCell_15 : decode cX10_isCell 15 = .ok (.ifCond .eq 25, 3) := by decide +kernel
theorem dX10_isCell_18 : decode cX10_isCell 18 = .ok (.iload_n 2, 1) := by decide +kernel
theorem dX10_isCell_19 : decode cX10_isCell 19 = .ok (.i2l, 1) := by decide +kernel
theorem dX10_isCell_20 : decode cX10_isCell 20 = .ok (.lconst 0, 1) := by decide +kernel
theorem dX10_isCell_21 : decode cX10_isCell 21 = .ok (.aload_n 0, 1) := by decide +kernel
theorem dX10_isCell_22 : decode cX10_isCell 22 = .ok (.getfield 11, 3) := by decide +kernel
theorem dX10_isCell_25 : decode cX10_isCell 25 = .ok (.iconst 1, 1) := by decide +kernel
theorem dX10_isCell_26 : decode cX10_isCell 26 = .ok (.iaload, 1) := by decide +kernel
theorem dX10_isCell_27 : decode cX10_isCell 27 = .ok (.iconst 1, 1) := by decide +kernel
theorem dX10_isCell_28 : decode cX10_isCell 28 = .ok (.isub, 1) := by decide +kernel
theorem dX10_isCell_29 : decode cX10_isCell 29 = .ok (.i2l, 1) := by decide +kernel
theorem dX10_isCell_30 : decode cX10_isCell 30 = .ok (.invokestatic 68, 3) := by decide +kernel
theorem dX10_isCell_33 : decode cX10_isCell 33 = .ok (.ifCond .eq 7, 3) := by decide +kernel
theorem dX10_isCell_36 : decode cX10_isCell 36 = .ok (.iconst 1, 1) := by decide +kernel
theorem dX10_isCell_37 : decode cX10_isCell 37 = .ok (.goto 4, 3) := by decide +kernel
theorem dX10_isCell_40 : decode cX10_isCell 40 = .ok (.iconst 0, 1) := by decide +kernel
theorem dX10_isCell_41 : decode cX10_isCell 41 = .ok (.ireturn, 1) := by decide +kernel
theorem dX10_isHere_0 : decode cX10_isHere 0 = .ok (.aload_n 0, 1) := by decide +kernel
theorem dX10_isHere_1 : decode cX10_isHere 1 = .ok (.iload_n 1, 1) := by decide +kernel
theorem dX10_isHere_2 : decode cX10_isHere 2 = .ok (.iconst 3, 1) := by decide +kernel
theorem dX10_isHere_3 : decode cX10_isHere 3 = .ok (.idiv, 1) := by decide +kernel
theorem dX10_isHere_4 : decode cX10_isHere 4 = .ok (.iload_n 1, 1) := by decide +kernel
theorem dX10_isHere_5 : decode cX10_isHere 5 = .ok (.iconst 3, 1) := by decide +kernel
theorem dX10_isHere_6 : decode cX10_isHere 6 = .ok (.irem, 1) := by decide +kernel
theorem dX10_isHere_7 : decode cX10_isHere 7 = .ok (.invokevirtual 72, 3) := by decide +kernel
theorem dX10_isHere_10 : decode cX10_isHere 10 = .ok (.ireturn, 1) := by decide +kernel
theorem dX10_linesOf_0 : decode cX10_linesOf 0 = .ok (.iload_n 1, 1) := by decide +kernel
theorem dX10_linesOf_1 : decode cX10_linesOf 1 = .ok (.ifCond .ne 12, 3) := by decide +kernel
theorem dX10_linesOf_4 : decode cX10_linesOf 4 = .ok (.aload_n 0, 1) := by decide +kernel
theorem dX10_linesOf_5 : decode cX10_linesOf 5 = .ok (.getfield 11, 3) := by decide +kernel
theorem dX10_linesOf_8 : decode cX10_linesOf 8 = .ok (.iconst 0, 1) := by decide +kernel
theorem dX10_linesOf_9 : decode cX10_linesOf 9 = .ok (.iaload, 1) := by decide +kernel
theorem dX10_linesOf_10 : decode cX10_linesOf 10 = .ok (.goto 18, 3) := by decide +kernel
theorem dX10_linesOf_13 : decode cX10_linesOf 13 = .ok (.iload_n 1, 1) := by decide +kernel
theorem dX10_linesOf_14 : decode cX10_linesOf 14 = .ok (.iconst 1, 1) := by decide +kernel
theorem dX10_linesOf_15 : decode cX10_linesOf 15 = .ok (.if_icmp .ne 12, 3) := by decide +kernel
theorem dX10_linesOf_18 : decode cX10_linesOf 18 = .ok (.aload_n 0, 1) := by decide +kernel
theorem dX10_linesOf_19 : decode cX10_linesOf 19 = .ok (.getfield 11, 3) := by decide +kernel
theorem dX10_linesOf_22 : decode cX10_linesOf 22 = .ok (.iconst 1, 1) := by decide +kernel
theorem dX10_linesOf_23 : decode cX10_linesOf 23 = .ok (.iaload, 1) := by decide +kernel
theorem dX10_linesOf_24 : decode cX10_linesOf 24 = .ok (.goto 4, 3) := by decide +kernel
theorem dX10_linesOf_27 : decode cX10_linesOf 27 = .ok (.iconst 3, 1) := by decide +kernel
theorem dX10_linesOf_28 : decode cX10_linesOf 28 = .ok (.ireturn, 1) := by decide +kernel
theorem dX10_isLine_0 : decode cX10_isLine 0 = .ok (.iload_n 1, 1) := by decide +kernel
theorem dX10_isLine_1 : decode cX10_isLine 1 = .ok (.i2l, 1) := by decide +kernel
theorem dX10_isLine_2 : decode cX10_isLine 2 = .ok (.lconst 0, 1) := by decide +kernel
theorem dX10_isLine_3 : decode cX10_isLine 3 = .ok (.ldc2_w 76, 3) := by decide +kernel
theorem dX10_isLine_6 : decode cX10_isLine 6 = .ok (.invokestatic 68, 3) := by decide +kernel
theorem dX10_isLine_9 : decode cX10_isLine 9 = .ok (.ifCond .eq 24, 3) := by decide +kernel
theorem dX10_isLine_12 : decode cX10_isLine 12 = .ok (.iload_n 2, 1) := by decide +kernel
theorem dX10_isLine_13 : decode cX10_isLine 13 = .ok (.i2l, 1) := by decide +kernel
theorem dX10_isLine_14 : decode cX10_isLine 14 = .ok (.lconst 0, 1) := by decide +kernel
theorem dX10_isLine_15 : decode cX10_isLine 15 = .ok (.aload_n 0, 1) := by decide +kernel
theorem dX10_isLine_16 : decode cX10_isLine 16 = .ok (.iload_n 1, 1) := by decide +kernel
theorem dX10_isLine_17 : decode cX10_isLine 17 = .ok (.invokevirtual 78, 3) := by decide +kernel
theorem dX10_isLine_20 : decode cX10_isLine 20 = .ok (.iconst 1, 1) := by decide +kernel
theorem dX10_isLine_21 : decode cX10_isLine 21 = .ok (.isub, 1) := by decide +kernel
theorem dX10_isLine_22 : decode cX10_isLine 22 = .ok (.i2l, 1) := by decide +kernel
theorem dX10_isLine_23 : decode cX10_isLine 23 = .ok (.invokestatic 68, 3) := by decide +kernel
theorem dX10_isLine_26 : decode cX10_isLine 26 = .ok (.ifCond .eq 7, 3) := by decide +kernel
theorem dX10_isLine_29 : decode cX10_isLine 29 = .ok (.iconst 1, 1) := by decide +kernel
theorem dX10_isLine_30 : decode cX10_isLine 30 = .ok (.goto 4, 3) := by decide +kernel
theorem dX10_isLine_33 : decode cX10_isLine 33 = .ok (.iconst 0, 1) := by decide +kernel
theorem dX10_isLine_34 : decode cX10_isLine 34 = .ok (.ireturn, 1) := by decide +kernel
theorem dX10_isIn_0 : decode cX10_isIn 0 = .ok (.aload_n 0, 1) := by decide +kernel
theorem dX10_isIn_1 : decode cX10_isIn 1 = .ok (.iload_n 1, 1) := by decide +kernel
theorem dX10_isIn_2 : decode cX10_isIn 2 = .ok (.invokevirtual 82, 3) := by decide +kernel
theorem dX10_isIn_5 : decode cX10_isIn 5 = .ok (.ifCond .eq 41, 3) := by decide +kernel
theorem dX10_isIn_8 : decode cX10_isIn 8 = .ok (.iload_n 2, 1) := by decide +kernel
theorem dX10_isIn_9 : decode cX10_isIn 9 = .ok (.ifCond .ne 9, 3) := by decide +kernel
theorem dX10_isIn_12 : decode cX10_isIn 12 = .ok (.iload_n 1, 1) := by decide +kernel
theorem dX10_isIn_13 : decode cX10_isIn 13 = .ok (.iconst 3, 1) := by decide +kernel
theorem dX10_isIn_14 : decode cX10_isIn 14 = .ok (.idiv, 1) := by decide +kernel
theorem dX10_isIn_15 : decode cX10_isIn 15 = .ok (.goto 23, 3) := by decide +kernel
theorem dX10_isIn_18 : decode cX10_isIn 18 = .ok (.iload_n 2, 1) := by decide +kernel
theorem dX10_isIn_19 : decode cX10_isIn 19 = .ok (.iconst 1, 1) := by decide +kernel
theorem dX10_isIn_20 : decode cX10_isIn 20 = .ok (.if_icmp .ne 9, 3) := by decide +kernel
theorem dX10_isIn_23 : decode cX10_isIn 23 = .ok (.iload_n 1, 1) := by decide +kernel
theorem dX10_isIn_24 : decode cX10_isIn 24 = .ok (.iconst 3, 1) := by decide +kernel
theorem dX10_isIn_25 : decode cX10_isIn 25 = .ok (.irem, 1) := by decide +kernel
theorem dX10_isIn_26 : decode cX10_isIn 26 = .ok (.goto 12, 3) := by decide +kernel
theorem dX10_isIn_29 : decode cX10_isIn 29 = .ok (.aload_n 0, 1) := by decide +kernel
theorem dX10_isIn_30 : decode cX10_isIn 30 = .ok (.getfield 11, 3) := by decide +kernel
theorem dX10_isIn_33 : decode cX10_isIn 33 = .ok (.bipush 16, 2) := by decide +kernel
theorem dX10_isIn_35 : decode cX10_isIn 35 = .ok (.iload_n 1, 1) := by decide +kernel
theorem dX10_isIn_36 : decode cX10_isIn 36 = .ok (.iadd, 1) := by decide +kernel
theorem dX10_isIn_37 : decode cX10_isIn 37 = .ok (.iaload, 1) := by decide +kernel
theorem dX10_isIn_38 : decode cX10_isIn 38 = .ok (.iload_n 3, 1) := by decide +kernel
theorem dX10_isIn_39 : decode cX10_isIn 39 = .ok (.if_icmp .ne 7, 3) := by decide +kernel
theorem dX10_isIn_42 : decode cX10_isIn 42 = .ok (.iconst 1, 1) := by decide +kernel
theorem dX10_isIn_43 : decode cX10_isIn 43 = .ok (.goto 4, 3) := by decide +kernel
theorem dX10_isIn_46 : decode cX10_isIn 46 = .ok (.iconst 0, 1) := by decide +kernel
theorem dX10_isIn_47 : decode cX10_isIn 47 = .ok (.ireturn, 1) := by decide +kernel
theorem dX10_size_0 : decode cX10_size 0 = .ok (.iload_n 1, 1) := by decide +kernel
theorem dX10_size_1 : decode cX10_size 1 = .ok (.i2l, 1) := by decide +kernel
theorem dX10_size_2 : decode cX10_size 2 = .ok (.lconst 1, 1) := by decide +kernel
theorem dX10_size_3 : decode cX10_size 3 = .ok (.ldc2_w 86, 3) := by decide +kernel
theorem dX10_size_6 : decode cX10_size 6 = .ok (.invokestatic 68, 3) := by decide +kernel
theorem dX10_size_9 : decode cX10_size 9 = .ok (.ifCond .eq 15, 3) := by decide +kernel
theorem dX10_size_12 : decode cX10_size 12 = .ok (.iload_n 2, 1) := by decide +kernel
theorem dX10_size_13 : decode cX10_size 13 = .ok (.i2l, 1) := by decide +kernel
theorem dX10_size_14 : decode cX10_size 14 = .ok (.lconst 1, 1) := by decide +kernel
theorem dX10_size_15 : decode cX10_size 15 = .ok (.ldc2_w 86, 3) := by decide +kernel
theorem dX10_size_18 : decode cX10_size 18 = .ok (.invokestatic 68, 3) := by decide +kernel
theorem dX10_size_21 : decode cX10_size 21 = .ok (.ifCond .ne 6, 3) := by decide +kernel
theorem dX10_size_24 : decode cX10_size 24 = .ok (.bipush (-2), 2) := by decide +kernel
theorem dX10_size_26 : decode cX10_size 26 = .ok (.ireturn, 1) := by decide +kernel
theorem dX10_size_27 : decode cX10_size 27 = .ok (.aload_n 0, 1) := by decide +kernel
theorem dX10_size_28 : decode cX10_size 28 = .ok (.getfield 11, 3) := by decide +kernel
theorem dX10_size_31 : decode cX10_size 31 = .ok (.iconst 0, 1) := by decide +kernel
theorem dX10_size_32 : decode cX10_size 32 = .ok (.iload_n 1, 1) := by decide +kernel
theorem dX10_size_33 : decode cX10_size 33 = .ok (.iastore, 1) := by decide +kernel
theorem dX10_size_34 : decode cX10_size 34 = .ok (.aload_n 0, 1) := by decide +kernel
theorem dX10_size_35 : decode cX10_size 35 = .ok (.getfield 11, 3) := by decide +kernel
theorem dX10_size_38 : decode cX10_size 38 = .ok (.iconst 1, 1) := by decide +kernel
theorem dX10_size_39 : decode cX10_size 39 = .ok (.iload_n 2, 1) := by decide +kernel
theorem dX10_size_40 : decode cX10_size 40 = .ok (.iastore, 1) := by decide +kernel
theorem dX10_size_41 : decode cX10_size 41 = .ok (.iconst 0, 1) := by decide +kernel
theorem dX10_size_42 : decode cX10_size 42 = .ok (.istore_n 3, 1) := by decide +kernel
theorem dX10_size_43 : decode cX10_size 43 = .ok (.iload_n 3, 1) := by decide +kernel
theorem dX10_size_44 : decode cX10_size 44 = .ok (.bipush 9, 2) := by decide +kernel
theorem dX10_size_46 : decode cX10_size 46 = .ok (.if_icmp .ge 40, 3) := by decide +kernel
theorem dX10_size_49 : decode cX10_size 49 = .ok (.aload_n 0, 1) := by decide +kernel
theorem dX10_size_50 : decode cX10_size 50 = .ok (.getfield 11, 3) := by decide +kernel
theorem dX10_size_53 : decode cX10_size 53 = .ok (.bipush 7, 2) := by decide +kernel
theorem dX10_size_55 : decode cX10_size 55 = .ok (.iload_n 3, 1) := by decide +kernel
theorem dX10_size_56 : decode cX10_size 56 = .ok (.iadd, 1) := by decide +kernel
theorem dX10_size_57 : decode cX10_size 57 = .ok (.iconst 1, 1) := by decide +kernel
theorem dX10_size_58 : decode cX10_size 58 = .ok (.iastore, 1) := by decide +kernel
theorem dX10_size_59 : decode cX10_size 59 = .ok (.aload_n 0, 1) := by decide +kernel
theorem dX10_size_60 : decode cX10_size 60 = .ok (.getfield 11, 3) := by decide +kernel
theorem dX10_size_63 : decode cX10_size 63 = .ok (.bipush 16, 2) := by decide +kernel
theorem dX10_size_65 : decode cX10_size 65 = .ok (.iload_n 3, 1) := by decide +kernel
theorem dX10_size_66 : decode cX10_size 66 = .ok (.iadd, 1) := by decide +kernel
theorem dX10_size_67 : decode cX10_size 67 = .ok (.iconst 0, 1) := by decide +kernel
theorem dX10_size_68 : decode cX10_size 68 = .ok (.iastore, 1) := by decide +kernel
theorem dX10_size_69 : decode cX10_size 69 = .ok (.aload_n 0, 1) := by decide +kernel
theorem dX10_size_70 : decode cX10_size 70 = .ok (.getfield 11, 3) := by decide +kernel
theorem dX10_size_73 : decode cX10_size 73 = .ok (.bipush 25, 2) := by decide +kernel
theorem dX10_size_75 : decode cX10_size 75 = .ok (.iload_n 3, 1) := by decide +kernel
theorem dX10_size_76 : decode cX10_size 76 = .ok (.iadd, 1) := by decide +kernel
theorem dX10_size_77 : decode cX10_size 77 = .ok (.bipush 10, 2) := by decide +kernel
theorem dX10_size_79 : decode cX10_size 79 = .ok (.iastore, 1) := by decide +kernel
theorem dX10_size_80 : decode cX10_size 80 = .ok (.iinc 3 1, 3) := by decide +kernel
theorem dX10_size_83 : decode cX10_size 83 = .ok (.goto (-40), 3) := by decide +kernel
theorem dX10_size_86 : decode cX10_size 86 = .ok (.aload_n 0, 1) := by decide +kernel
theorem dX10_size_87 : decode cX10_size 87 = .ok (.getfield 11, 3) := by decide +kernel
theorem dX10_size_90 : decode cX10_size 90 = .ok (.iconst 4, 1) := by decide +kernel
theorem dX10_size_91 : decode cX10_size 91 = .ok (.iconst 0, 1) := by decide +kernel
theorem dX10_size_92 : decode cX10_size 92 = .ok (.iastore, 1) := by decide +kernel
theorem dX10_size_93 : decode cX10_size 93 = .ok (.aload_n 0, 1) := by decide +kernel
theorem dX10_size_94 : decode cX10_size 94 = .ok (.getfield 11, 3) := by decide +kernel
theorem dX10_size_97 : decode cX10_size 97 = .ok (.iconst 5, 1) := by decide +kernel
theorem dX10_size_98 : decode cX10_size 98 = .ok (.iconst 0, 1) := by decide +kernel
theorem dX10_size_99 : decode cX10_size 99 = .ok (.iastore, 1) := by decide +kernel
theorem dX10_size_100 : decode cX10_size 100 = .ok (.aload_n 0, 1) := by decide +kernel
theorem dX10_size_101 : decode cX10_size 101 = .ok (.getfield 11, 3) := by decide +kernel
theorem dX10_size_104 : decode cX10_size 104 = .ok (.bipush 6, 2) := by decide +kernel
theorem dX10_size_106 : decode cX10_size 106 = .ok (.iconst 0, 1) := by decide +kernel
theorem dX10_size_107 : decode cX10_size 107 = .ok (.iastore, 1) := by decide +kernel
theorem dX10_size_108 : decode cX10_size 108 = .ok (.aload_n 0, 1) := by decide +kernel
theorem dX10_size_109 : decode cX10_size 109 = .ok (.invokevirtual 88, 3) := by decide +kernel
theorem dX10_size_112 : decode cX10_size 112 = .ok (.pop, 1) := by decide +kernel
theorem dX10_size_113 : decode cX10_size 113 = .ok (.iload_n 1, 1) := by decide +kernel
theorem dX10_size_114 : decode cX10_size 114 = .ok (.iload_n 2, 1) := by decide +kernel
theorem dX10_size_115 : decode cX10_size 115 = .ok (.imul, 1) := by decide +kernel
theorem dX10_size_116 : decode cX10_size 116 = .ok (.ireturn, 1) := by decide +kernel
theorem dX10_begin_0 : decode cX10_begin 0 = .ok (.aload_n 0, 1) := by decide +kernel
theorem dX10_begin_1 : decode cX10_begin 1 = .ok (.getfield 11, 3) := by decide +kernel
theorem dX10_begin_4 : decode cX10_begin 4 = .ok (.iconst 3, 1) := by decide +kernel
theorem dX10_begin_5 : decode cX10_begin 5 = .ok (.iaload, 1) := by decide +kernel
theorem dX10_begin_6 : decode cX10_begin 6 = .ok (.istore_n 1, 1) := by decide +kernel
theorem dX10_begin_7 : decode cX10_begin 7 = .ok (.iconst 0, 1) := by decide +kernel
theorem dX10_begin_8 : decode cX10_begin 8 = .ok (.istore_n 2, 1) := by decide +kernel
theorem dX10_begin_9 : decode cX10_begin 9 = .ok (.iload_n 2, 1) := by decide +kernel
theorem dX10_begin_10 : decode cX10_begin 10 = .ok (.bipush 9, 2) := by decide +kernel
theorem dX10_begin_12 : decode cX10_begin 12 = .ok (.if_icmp .ge 37, 3) := by decide +kernel
theorem dX10_begin_15 : decode cX10_begin 15 = .ok (.aload_n 0, 1) := by decide +kernel
theorem dX10_begin_16 : decode cX10_begin 16 = .ok (.getfield 11, 3) := by decide +kernel
theorem dX10_begin_19 : decode cX10_begin 19 = .ok (.bipush 34, 2) := by decide +kernel
theorem dX10_begin_21 : decode cX10_begin 21 = .ok (.iload_n 2, 1) := by decide +kernel
theorem dX10_begin_22 : decode cX10_begin 22 = .ok (.iadd, 1) := by decide +kernel
theorem dX10_begin_23 : decode cX10_begin 23 = .ok (.aload_n 0, 1) := by decide +kernel
theorem dX10_begin_24 : decode cX10_begin 24 = .ok (.getfield 11, 3) := by decide +kernel
theorem dX10_begin_27 : decode cX10_begin 27 = .ok (.bipush 7, 2) := by decide +kernel
theorem dX10_begin_29 : decode cX10_begin 29 = .ok (.iload_n 2, 1) := by decide +kernel
theorem dX10_begin_30 : decode cX10_begin 30 = .ok (.iadd, 1) := by decide +kernel
theorem dX10_begin_31 : decode cX10_begin 31 = .ok (.iaload, 1) := by decide +kernel
theorem dX10_begin_32 : decode cX10_begin 32 = .ok (.iastore, 1) := by decide +kernel
theorem dX10_begin_33 : decode cX10_begin 33 = .ok (.aload_n 0, 1) := by decide +kernel
theorem dX10_begin_34 : decode cX10_begin 34 = .ok (.getfield 11, 3) := by decide +kernel
theorem dX10_begin_37 : decode cX10_begin 37 = .ok (.bipush 43, 2) := by decide +kernel
theorem dX10_begin_39 : decode cX10_begin 39 = .ok (.iload_n 2, 1) := by decide +kernel
theorem dX10_begin_40 : decode cX10_begin 40 = .ok (.iadd, 1) := by decide +kernel
theorem dX10_begin_41 : decode cX10_begin 41 = .ok (.iconst 1, 1) := by decide +kernel
theorem dX10_begin_42 : decode cX10_begin 42 = .ok (.iastore, 1) := by decide +kernel
theorem dX10_begin_43 : decode cX10_begin 43 = .ok (.iinc 2 1, 3) := by decide +kernel
theorem dX10_begin_46 : decode cX10_begin 46 = .ok (.goto (-37), 3) := by decide +kernel
theorem dX10_begin_49 : decode cX10_begin 49 = .ok (.aload_n 0, 1) := by decide +kernel
theorem dX10_begin_50 : decode cX10_begin 50 = .ok (.getfield 11, 3) := by decide +kernel
theorem dX10_begin_53 : decode cX10_begin 53 = .ok (.iconst 3, 1) := by decide +kernel
theorem dX10_begin_54 : decode cX10_begin 54 = .ok (.iconst 0, 1) := by decide +kernel
theorem dX10_begin_55 : decode cX10_begin 55 = .ok (.iastore, 1) := by decide +kernel
theorem dX10_begin_56 : decode cX10_begin 56 = .ok (.iload_n 1, 1) := by decide +kernel
theorem dX10_begin_57 : decode cX10_begin 57 = .ok (.ireturn, 1) := by decide +kernel
theorem dX10_tell_0 : decode cX10_tell 0 = .ok (.aload_n 0, 1) := by decide +kernel
theorem dX10_tell_1 : decode cX10_tell 1 = .ok (.iload_n 1, 1) := by decide +kernel
theorem dX10_tell_2 : decode cX10_tell 2 = .ok (.iload_n 2, 1) := by decide +kernel
theorem dX10_tell_3 : decode cX10_tell 3 = .ok (.invokevirtual 72, 3) := by decide +kernel
theorem dX10_tell_6 : decode cX10_tell 6 = .ok (.ifCond .ne 5, 3) := by decide +kernel
theorem dX10_tell_9 : decode cX10_tell 9 = .ok (.iconst (-1), 1) := by decide +kernel
theorem dX10_tell_10 : decode cX10_tell 10 = .ok (.ireturn, 1) := by decide +kernel
theorem dX10_tell_11 : decode cX10_tell 11 = .ok (.iload_n 3, 1) := by decide +kernel
theorem dX10_tell_12 : decode cX10_tell 12 = .ok (.i2l, 1) := by decide +kernel
theorem dX10_tell_13 : decode cX10_tell 13 = .ok (.lconst 0, 1) := by decide +kernel
theorem dX10_tell_14 : decode cX10_tell 14 = .ok (.ldc2_w 92, 3) := by decide +kernel
theorem dX10_tell_17 : decode cX10_tell 17 = .ok (.invokestatic 68, 3) := by decide +kernel
theorem dX10_tell_20 : decode cX10_tell 20 = .ok (.ifCond .ne 6, 3) := by decide +kernel
theorem dX10_tell_23 : decode cX10_tell 23 = .ok (.bipush (-2), 2) := by decide +kernel
theorem dX10_tell_25 : decode cX10_tell 25 = .ok (.ireturn, 1) := by decide +kernel
theorem dX10_tell_26 : decode cX10_tell 26 = .ok (.aload_n 0, 1) := by decide +kernel
theorem dX10_tell_27 : decode cX10_tell 27 = .ok (.getfield 11, 3) := by decide +kernel
theorem dX10_tell_30 : decode cX10_tell 30 = .ok (.bipush 7, 2) := by decide +kernel
theorem dX10_tell_32 : decode cX10_tell 32 = .ok (.iconst 3, 1) := by decide +kernel
theorem dX10_tell_33 : decode cX10_tell 33 = .ok (.iload_n 1, 1) := by decide +kernel
theorem dX10_tell_34 : decode cX10_tell 34 = .ok (.imul, 1) := by decide +kernel
theorem dX10_tell_35 : decode cX10_tell 35 = .ok (.iadd, 1) := by decide +kernel
theorem dX10_tell_36 : decode cX10_tell 36 = .ok (.iload_n 2, 1) := by decide +kernel
theorem dX10_tell_37 : decode cX10_tell 37 = .ok (.iadd, 1) := by decide +kernel
theorem dX10_tell_38 : decode cX10_tell 38 = .ok (.iaload, 1) := by decide +kernel
theorem dX10_tell_39 : decode cX10_tell 39 = .ok (.istore 4, 2) := by decide +kernel
theorem dX10_tell_41 : decode cX10_tell 41 = .ok (.aload_n 0, 1) := by decide +kernel
theorem dX10_tell_42 : decode cX10_tell 42 = .ok (.getfield 11, 3) := by decide +kernel
theorem dX10_tell_45 : decode cX10_tell 45 = .ok (.bipush 7, 2) := by decide +kernel
theorem dX10_tell_47 : decode cX10_tell 47 = .ok (.iconst 3, 1) := by decide +kernel
theorem dX10_tell_48 : decode cX10_tell 48 = .ok (.iload_n 1, 1) := by decide +kernel
theorem dX10_tell_49 : decode cX10_tell 49 = .ok (.imul, 1) := by decide +kernel
theorem dX10_tell_50 : decode cX10_tell 50 = .ok (.iadd, 1) := by decide +kernel
theorem dX10_tell_51 : decode cX10_tell 51 = .ok (.iload_n 2, 1) := by decide +kernel
theorem dX10_tell_52 : decode cX10_tell 52 = .ok (.iadd, 1) := by decide +kernel
theorem dX10_tell_53 : decode cX10_tell 53 = .ok (.iload_n 3, 1) := by decide +kernel
theorem dX10_tell_54 : decode cX10_tell 54 = .ok (.iastore, 1) := by decide +kernel
theorem dX10_tell_55 : decode cX10_tell 55 = .ok (.aload_n 0, 1) := by decide +kernel
theorem dX10_tell_56 : decode cX10_tell 56 = .ok (.invokevirtual 88, 3) := by decide +kernel
theorem dX10_tell_59 : decode cX10_tell 59 = .ok (.pop, 1) := by decide +kernel
theorem dX10_tell_60 : decode cX10_tell 60 = .ok (.iload 4, 2) := by decide +kernel
theorem dX10_tell_62 : decode cX10_tell 62 = .ok (.ireturn, 1) := by decide +kernel
theorem dX10_mark_0 : decode cX10_mark 0 = .ok (.aload_n 0, 1) := by decide +kernel
theorem dX10_mark_1 : decode cX10_mark 1 = .ok (.iload_n 1, 1) := by decide +kernel
theorem dX10_mark_2 : decode cX10_mark 2 = .ok (.iload_n 2, 1) := by decide +kernel
theorem dX10_mark_3 : decode cX10_mark 3 = .ok (.invokevirtual 72, 3) := by decide +kernel
theorem dX10_mark_6 : decode cX10_mark 6 = .ok (.ifCond .ne 5, 3) := by decide +kernel
theorem dX10_mark_9 : decode cX10_mark 9 = .ok (.iconst (-1), 1) := by decide +kernel
theorem dX10_mark_10 : decode cX10_mark 10 = .ok (.ireturn, 1) := by decide +kernel
theorem dX10_mark_11 : decode cX10_mark 11 = .ok (.iload_n 3, 1) := by decide +kernel
theorem dX10_mark_12 : decode cX10_mark 12 = .ok (.i2l, 1) := by decide +kernel
theorem dX10_mark_13 : decode cX10_mark 13 = .ok (.lconst 0, 1) := by decide +kernel
theorem dX10_mark_14 : decode cX10_mark 14 = .ok (.ldc2_w 76, 3) := by decide +kernel
theorem dX10_mark_17 : decode cX10_mark 17 = .ok (.invokestatic 68, 3) := by decide +kernel
theorem dX10_mark_20 : decode cX10_mark 20 = .ok (.ifCond .eq 19, 3) := by decide +kernel
theorem dX10_mark_23 : decode cX10_mark 23 = .ok (.aload_n 0, 1) := by decide +kernel
theorem dX10_mark_24 : decode cX10_mark 24 = .ok (.bipush 16, 2) := by decide +kernel
theorem dX10_mark_26 : decode cX10_mark 26 = .ok (.iconst 3, 1) := by decide +kernel
theorem dX10_mark_27 : decode cX10_mark 27 = .ok (.iload_n 1, 1) := by decide +kernel
theorem dX10_mark_28 : decode cX10_mark 28 = .ok (.imul, 1) := by decide +kernel
theorem dX10_mark_29 : decode cX10_mark 29 = .ok (.iadd, 1) := by decide +kernel
theorem dX10_mark_30 : decode cX10_mark 30 = .ok (.iload_n 2, 1) := by decide +kernel
theorem dX10_mark_31 : decode cX10_mark 31 = .ok (.iadd, 1) := by decide +kernel
theorem dX10_mark_32 : decode cX10_mark 32 = .ok (.iload_n 3, 1) := by decide +kernel
theorem dX10_mark_33 : decode cX10_mark 33 = .ok (.invokevirtual 94, 3) := by decide +kernel
theorem dX10_mark_36 : decode cX10_mark 36 = .ok (.goto 5, 3) := by decide +kernel
theorem dX10_mark_39 : decode cX10_mark 39 = .ok (.bipush (-2), 2) := by decide +kernel
theorem dX10_mark_41 : decode cX10_mark 41 = .ok (.ireturn, 1) := by decide +kernel
theorem dX10_becomes_0 : decode cX10_becomes 0 = .ok (.aload_n 0, 1) := by decide +kernel
theorem dX10_becomes_1 : decode cX10_becomes 1 = .ok (.getfield 11, 3) := by decide +kernel
theorem dX10_becomes_4 : decode cX10_becomes 4 = .ok (.iload_n 1, 1) := by decide +kernel
theorem dX10_becomes_5 : decode cX10_becomes 5 = .ok (.iaload, 1) := by decide +kernel
theorem dX10_becomes_6 : decode cX10_becomes 6 = .ok (.istore_n 3, 1) := by decide +kernel
theorem dX10_becomes_7 : decode cX10_becomes 7 = .ok (.aload_n 0, 1) := by decide +kernel
theorem dX10_becomes_8 : decode cX10_becomes 8 = .ok (.getfield 11, 3) := by decide +kernel
theorem dX10_becomes_11 : decode cX10_becomes 11 = .ok (.iload_n 1, 1) := by decide +kernel
theorem dX10_becomes_12 : decode cX10_becomes 12 = .ok (.iload_n 2, 1) := by decide +kernel
theorem dX10_becomes_13 : decode cX10_becomes 13 = .ok (.iastore, 1) := by decide +kernel
theorem dX10_becomes_14 : decode cX10_becomes 14 = .ok (.iload_n 3, 1) := by decide +kernel
theorem dX10_becomes_15 : decode cX10_becomes 15 = .ok (.ireturn, 1) := by decide +kernel
theorem dX10_margin_0 : decode cX10_margin 0 = .ok (.aload_n 0, 1) := by decide +kernel
theorem dX10_margin_1 : decode cX10_margin 1 = .ok (.iload_n 1, 1) := by decide +kernel
theorem dX10_margin_2 : decode cX10_margin 2 = .ok (.iload_n 2, 1) := by decide +kernel
theorem dX10_margin_3 : decode cX10_margin 3 = .ok (.invokevirtual 97, 3) := by decide +kernel
theorem dX10_margin_6 : decode cX10_margin 6 = .ok (.ifCond .ne 5, 3) := by decide +kernel
theorem dX10_margin_9 : decode cX10_margin 9 = .ok (.iconst (-1), 1) := by decide +kernel
theorem dX10_margin_10 : decode cX10_margin 10 = .ok (.ireturn, 1) := by decide +kernel
theorem dX10_margin_11 : decode cX10_margin 11 = .ok (.iload_n 3, 1) := by decide +kernel
theorem dX10_margin_12 : decode cX10_margin 12 = .ok (.i2l, 1) := by decide +kernel
theorem dX10_margin_13 : decode cX10_margin 13 = .ok (.lconst 0, 1) := by decide +kernel
theorem dX10_margin_14 : decode cX10_margin 14 = .ok (.ldc2_w 100, 3) := by decide +kernel
theorem dX10_margin_17 : decode cX10_margin 17 = .ok (.invokestatic 68, 3) := by decide +kernel
theorem dX10_margin_20 : decode cX10_margin 20 = .ok (.ifCond .eq 19, 3) := by decide +kernel
theorem dX10_margin_23 : decode cX10_margin 23 = .ok (.aload_n 0, 1) := by decide +kernel
theorem dX10_margin_24 : decode cX10_margin 24 = .ok (.bipush 25, 2) := by decide +kernel
theorem dX10_margin_26 : decode cX10_margin 26 = .ok (.iconst 3, 1) := by decide +kernel
theorem dX10_margin_27 : decode cX10_margin 27 = .ok (.iload_n 1, 1) := by decide +kernel
theorem dX10_margin_28 : decode cX10_margin 28 = .ok (.imul, 1) := by decide +kernel
theorem dX10_margin_29 : decode cX10_margin 29 = .ok (.iadd, 1) := by decide +kernel
theorem dX10_margin_30 : decode cX10_margin 30 = .ok (.iload_n 2, 1) := by decide +kernel
theorem dX10_margin_31 : decode cX10_margin 31 = .ok (.iadd, 1) := by decide +kernel
theorem dX10_margin_32 : decode cX10_margin 32 = .ok (.iload_n 3, 1) := by decide +kernel
theorem dX10_margin_33 : decode cX10_margin 33 = .ok (.invokevirtual 94, 3) := by decide +kernel
theorem dX10_margin_36 : decode cX10_margin 36 = .ok (.goto 5, 3) := by decide +kernel
theorem dX10_margin_39 : decode cX10_margin 39 = .ok (.bipush (-2), 2) := by decide +kernel
theorem dX10_margin_41 : decode cX10_margin 41 = .ok (.ireturn, 1) := by decide +kernel
theorem dX10_three_0 : decode cX10_three 0 = .ok (.aload_n 0, 1) := by decide +kernel
theorem dX10_three_1 : decode cX10_three 1 = .ok (.iconst 2, 1) := by decide +kernel
theorem dX10_three_2 : decode cX10_three 2 = .ok (.iload_n 1, 1) := by decide +kernel
theorem dX10_three_3 : decode cX10_three 3 = .ok (.ifCond .eq 7, 3) := by decide +kernel
theorem dX10_three_6 : decode cX10_three 6 = .ok (.iconst 1, 1) := by decide +kernel
theorem dX10_three_7 : decode cX10_three 7 = .ok (.goto 4, 3) := by decide +kernel
theorem dX10_three_10 : decode cX10_three 10 = .ok (.iconst 0, 1) := by decide +kernel
theorem dX10_three_11 : decode cX10_three 11 = .ok (.invokevirtual 94, 3) := by decide +kernel
theorem dX10_three_14 : decode cX10_three 14 = .ok (.ireturn, 1) := by decide +kernel
theorem dX10_of_0 : decode cX10_of 0 = .ok (.aload_n 0, 1) := by decide +kernel
theorem dX10_of_1 : decode cX10_of 1 = .ok (.iload_n 1, 1) := by decide +kernel
theorem dX10_of_2 : decode cX10_of 2 = .ok (.iload_n 2, 1) := by decide +kernel
theorem dX10_of_3 : decode cX10_of 3 = .ok (.invokevirtual 72, 3) := by decide +kernel
theorem dX10_of_6 : decode cX10_of 6 = .ok (.ifCond .eq 13, 3) := by decide +kernel
theorem dX10_of_9 : decode cX10_of 9 = .ok (.iload_n 3, 1) := by decide +kernel
theorem dX10_of_10 : decode cX10_of 10 = .ok (.i2l, 1) := by decide +kernel
theorem dX10_of_11 : decode cX10_of 11 = .ok (.lconst 0, 1) := by decide +kernel
theorem dX10_of_12 : decode cX10_of 12 = .ok (.lconst 1, 1) := by decide +kernel
theorem dX10_of_13 : decode cX10_of 13 = .ok (.invokestatic 68, 3) := by decide +kernel
theorem dX10_of_16 : decode cX10_of 16 = .ok (.ifCond .ne 5, 3) := by decide +kernel
theorem dX10_of_19 : decode cX10_of 19 = .ok (.iconst (-1), 1) := by decide +kernel
theorem dX10_of_20 : decode cX10_of 20 = .ok (.ireturn, 1) := by decide +kernel
theorem dX10_of_21 : decode cX10_of 21 = .ok (.aload_n 0, 1) := by decide +kernel
theorem dX10_of_22 : decode cX10_of 22 = .ok (.getfield 11, 3) := by decide +kernel
theorem dX10_of_25 : decode cX10_of 25 = .ok (.iload_n 3, 1) := by decide +kernel
theorem dX10_of_26 : decode cX10_of 26 = .ok (.ifCond .ne 8, 3) := by decide +kernel
theorem dX10_of_29 : decode cX10_of 29 = .ok (.bipush 7, 2) := by decide +kernel
theorem dX10_of_31 : decode cX10_of 31 = .ok (.goto 5, 3) := by decide +kernel
theorem dX10_of_34 : decode cX10_of 34 = .ok (.bipush 16, 2) := by decide +kernel
theorem dX10_of_36 : decode cX10_of 36 = .ok (.iconst 3, 1) := by decide +kernel
theorem dX10_of_37 : decode cX10_of 37 = .ok (.iload_n 1, 1) := by decide +kernel
theorem dX10_of_38 : decode cX10_of 38 = .ok (.imul, 1) := by decide +kernel
theorem dX10_of_39 : decode cX10_of 39 = .ok (.iadd, 1) := by decide +kernel
theorem dX10_of_40 : decode cX10_of 40 = .ok (.iload_n 2, 1) := by decide +kernel
theorem dX10_of_41 : decode cX10_of 41 = .ok (.iadd, 1) := by decide +kernel
theorem dX10_of_42 : decode cX10_of 42 = .ok (.iaload, 1) := by decide +kernel
theorem dX10_of_43 : decode cX10_of 43 = .ok (.ireturn, 1) := by decide +kernel
theorem dX10_marginAt_0 : decode cX10_marginAt 0 = .ok (.aload_n 0, 1) := by decide +kernel
theorem dX10_marginAt_1 : decode cX10_marginAt 1 = .ok (.getfield 11, 3) := by decide +kernel
theorem dX10_marginAt_4 : decode cX10_marginAt 4 = .ok (.bipush 25, 2) := by decide +kernel
theorem dX10_marginAt_6 : decode cX10_marginAt 6 = .ok (.iconst 3, 1) := by decide +kernel
theorem dX10_marginAt_7 : decode cX10_marginAt 7 = .ok (.iload_n 1, 1) := by decide +kernel
theorem dX10_marginAt_8 : decode cX10_marginAt 8 = .ok (.imul, 1) := by decide +kernel
theorem dX10_marginAt_9 : decode cX10_marginAt 9 = .ok (.iadd, 1) := by decide +kernel
theorem dX10_marginAt_10 : decode cX10_marginAt 10 = .ok (.iload_n 2, 1) := by decide +kernel
theorem dX10_marginAt_11 : decode cX10_marginAt 11 = .ok (.iadd, 1) := by decide +kernel
theorem dX10_marginAt_12 : decode cX10_marginAt 12 = .ok (.iaload, 1) := by decide +kernel
theorem dX10_marginAt_13 : decode cX10_marginAt 13 = .ok (.ireturn, 1) := by decide +kernel
theorem dX10_marginOf_0 : decode cX10_marginOf 0 = .ok (.aload_n 0, 1) := by decide +kernel
theorem dX10_marginOf_1 : decode cX10_marginOf 1 = .ok (.iload_n 1, 1) := by decide +kernel
theorem dX10_marginOf_2 : decode cX10_marginOf 2 = .ok (.iload_n 2, 1) := by decide +kernel
theorem dX10_marginOf_3 : decode cX10_marginOf 3 = .ok (.invokevirtual 97, 3) := by decide +kernel
theorem dX10_marginOf_6 : decode cX10_marginOf 6 = .ok (.ifCond .eq 12, 3) := by decide +kernel
theorem dX10_marginOf_9 : decode cX10_marginOf 9 = .ok (.aload_n 0, 1) := by decide +kernel
theorem dX10_marginOf_10 : decode cX10_marginOf 10 = .ok (.iload_n 1, 1) := by decide +kernel
theorem dX10_marginOf_11 : decode cX10_marginOf 11 = .ok (.iload_n 2, 1) := by decide +kernel
theorem dX10_marginOf_12 : decode cX10_marginOf 12 = .ok (.invokevirtual 102, 3) := by decide +kernel
theorem dX10_marginOf_15 : decode cX10_marginOf 15 = .ok (.goto 4, 3) := by decide +kernel
theorem dX10_marginOf_18 : decode cX10_marginOf 18 = .ok (.iconst (-1), 1) := by decide +kernel
theorem dX10_marginOf_19 : decode cX10_marginOf 19 = .ok (.ireturn, 1) := by decide +kernel
theorem dX10_feed_0 : decode cX10_feed 0 = .ok (.iload_n 1, 1) := by decide +kernel
theorem dX10_feed_1 : decode cX10_feed 1 = .ok (.i2l, 1) := by decide +kernel
theorem dX10_feed_2 : decode cX10_feed 2 = .ok (.lconst 0, 1) := by decide +kernel
theorem dX10_feed_3 : decode cX10_feed 3 = .ok (.ldc2_w 105, 3) := by decide +kernel
theorem dX10_feed_6 : decode cX10_feed 6 = .ok (.invokestatic 68, 3) := by decide +kernel
theorem dX10_feed_9 : decode cX10_feed 9 = .ok (.ifCond .ne 6, 3) := by decide +kernel
theorem dX10_feed_12 : decode cX10_feed 12 = .ok (.bipush (-2), 2) := by decide +kernel
theorem dX10_feed_14 : decode cX10_feed 14 = .ok (.ireturn, 1) := by decide +kernel
theorem dX10_feed_15 : decode cX10_feed 15 = .ok (.aload_n 0, 1) := by decide +kernel
theorem dX10_feed_16 : decode cX10_feed 16 = .ok (.getfield 107, 3) := by decide +kernel
theorem dX10_feed_19 : decode cX10_feed 19 = .ok (.bipush 100, 2) := by decide +kernel
theorem dX10_feed_21 : decode cX10_feed 21 = .ok (.if_icmp .ne 6, 3) := by decide +kernel
theorem dX10_feed_24 : decode cX10_feed 24 = .ok (.bipush (-4), 2) := by decide +kernel
theorem dX10_feed_26 : decode cX10_feed 26 = .ok (.ireturn, 1) := by decide +kernel
theorem dX10_feed_27 : decode cX10_feed 27 = .ok (.aload_n 0, 1) := by decide +kernel
theorem dX10_feed_28 : decode cX10_feed 28 = .ok (.getfield 21, 3) := by decide +kernel
theorem dX10_feed_31 : decode cX10_feed 31 = .ok (.aload_n 0, 1) := by decide +kernel
theorem dX10_feed_32 : decode cX10_feed 32 = .ok (.getfield 107, 3) := by decide +kernel
theorem dX10_feed_35 : decode cX10_feed 35 = .ok (.iload_n 1, 1) := by decide +kernel
theorem dX10_feed_36 : decode cX10_feed 36 = .ok (.iastore, 1) := by decide +kernel
theorem dX10_feed_37 : decode cX10_feed 37 = .ok (.aload_n 0, 1) := by decide +kernel
theorem dX10_feed_38 : decode cX10_feed 38 = .ok (.dup, 1) := by decide +kernel
theorem dX10_feed_39 : decode cX10_feed 39 = .ok (.getfield 107, 3) := by decide +kernel
theorem dX10_feed_42 : decode cX10_feed 42 = .ok (.iconst 1, 1) := by decide +kernel
theorem dX10_feed_43 : decode cX10_feed 43 = .ok (.iadd, 1) := by decide +kernel
theorem dX10_feed_44 : decode cX10_feed 44 = .ok (.putfield 107, 3) := by decide +kernel
theorem dX10_feed_47 : decode cX10_feed 47 = .ok (.aload_n 0, 1) := by decide +kernel
theorem dX10_feed_48 : decode cX10_feed 48 = .ok (.getfield 107, 3) := by decide +kernel
theorem dX10_feed_51 : decode cX10_feed 51 = .ok (.ireturn, 1) := by decide +kernel
theorem dX10_isDigit_0 : decode cX10_isDigit 0 = .ok (.iload_n 1, 1) := by decide +kernel
theorem dX10_isDigit_1 : decode cX10_isDigit 1 = .ok (.aload_n 0, 1) := by decide +kernel
theorem dX10_isDigit_2 : decode cX10_isDigit 2 = .ok (.getfield 107, 3) := by decide +kernel
theorem dX10_isDigit_5 : decode cX10_isDigit 5 = .ok (.if_icmp .ge 26, 3) := by decide +kernel
theorem dX10_isDigit_8 : decode cX10_isDigit 8 = .ok (.aload_n 0, 1) := by decide +kernel
theorem dX10_isDigit_9 : decode cX10_isDigit 9 = .ok (.getfield 21, 3) := by decide +kernel
theorem dX10_isDigit_12 : decode cX10_isDigit 12 = .ok (.iload_n 1, 1) := by decide +kernel
theorem dX10_isDigit_13 : decode cX10_isDigit 13 = .ok (.iaload, 1) := by decide +kernel
theorem dX10_isDigit_14 : decode cX10_isDigit 14 = .ok (.i2l, 1) := by decide +kernel
theorem dX10_isDigit_15 : decode cX10_isDigit 15 = .ok (.ldc2_w 111, 3) := by decide +kernel
theorem dX10_isDigit_18 : decode cX10_isDigit 18 = .ok (.ldc2_w 113, 3) := by decide +kernel
theorem dX10_isDigit_21 : decode cX10_isDigit 21 = .ok (.invokestatic 68, 3) := by decide +kernel
theorem dX10_isDigit_24 : decode cX10_isDigit 24 = .ok (.ifCond .eq 7, 3) := by decide +kernel
theorem dX10_isDigit_27 : decode cX10_isDigit 27 = .ok (.iconst 1, 1) := by decide +kernel
theorem dX10_isDigit_28 : decode cX10_isDigit 28 = .ok (.goto 4, 3) := by decide +kernel
theorem dX10_isDigit_31 : decode cX10_isDigit 31 = .ok (.iconst 0, 1) := by decide +kernel
theorem dX10_isDigit_32 : decode cX10_isDigit 32 = .ok (.ireturn, 1) := by decide +kernel
theorem dX10_isKind_0 : decode cX10_isKind 0 = .ok (.iload_n 0, 1) := by decide +kernel
theorem dX10_isKind_1 : decode cX10_isKind 1 = .ok (.bipush 115, 2) := by decide +kernel
theorem dX10_isKind_3 : decode cX10_isKind 3 = .ok (.if_icmp .eq 27, 3) := by decide +kernel
theorem dX10_isKind_6 : decode cX10_isKind 6 = .ok (.iload_n 0, 1) := by decide +kernel
theorem dX10_isKind_7 : decode cX10_isKind 7 = .ok (.bipush 110, 2) := by decide +kernel
theorem dX10_isKind_9 : decode cX10_isKind 9 = .ok (.if_icmp .eq 21, 3) := by decide +kernel
theorem dX10_isKind_12 : decode cX10_isKind 12 = .ok (.iload_n 0, 1) := by decide +kernel
theorem dX10_isKind_13 : decode cX10_isKind 13 = .ok (.bipush 107, 2) := by decide +kernel
theorem dX10_isKind_15 : decode cX10_isKind 15 = .ok (.if_icmp .eq 15, 3) := by decide +kernel
theorem dX10_isKind_18 : decode cX10_isKind 18 = .ok (.iload_n 0, 1) := by decide +kernel
theorem dX10_isKind_19 : decode cX10_isKind 19 = .ok (.bipush 109, 2) := by decide +kernel
theorem dX10_isKind_21 : decode cX10_isKind 21 = .ok (.if_icmp .eq 9, 3) := by decide +kernel
theorem dX10_isKind_24 : decode cX10_isKind 24 = .ok (.iload_n 0, 1) := by decide +kernel
theorem dX10_isKind_25 : decode cX10_isKind 25 = .ok (.bipush 120, 2) := by decide +kernel
theorem dX10_isKind_27 : decode cX10_isKind 27 = .ok (.if_icmp .ne 7, 3) := by decide +kernel
theorem dX10_isKind_30 : decode cX10_isKind 30 = .ok (.iconst 1, 1) := by decide +kernel
theorem dX10_isKind_31 : decode cX10_isKind 31 = .ok (.goto 4, 3) := by decide +kernel
theorem dX10_isKind_34 : decode cX10_isKind 34 = .ok (.iconst 0, 1) := by decide +kernel
theorem dX10_isKind_35 : decode cX10_isKind 35 = .ok (.ireturn, 1) := by decide +kernel
theorem dX10_digitsOf_0 : decode cX10_digitsOf 0 = .ok (.iload_n 0, 1) := by decide +kernel
theorem dX10_digitsOf_1 : decode cX10_digitsOf 1 = .ok (.bipush 120, 2) := by decide +kernel
theorem dX10_digitsOf_3 : decode cX10_digitsOf 3 = .ok (.if_icmp .ne 7, 3) := by decide +kernel
theorem dX10_digitsOf_6 : decode cX10_digitsOf 6 = .ok (.iconst 0, 1) := by decide +kernel
theorem dX10_digitsOf_7 : decode cX10_digitsOf 7 = .ok (.goto 14, 3) := by decide +kernel
theorem dX10_digitsOf_10 : decode cX10_digitsOf 10 = .ok (.iload_n 0, 1) := by decide +kernel
theorem dX10_digitsOf_11 : decode cX10_digitsOf 11 = .ok (.bipush 107, 2) := by decide +kernel
theorem dX10_digitsOf_13 : decode cX10_digitsOf 13 = .ok (.if_icmp .ne 7, 3) := by decide +kernel
theorem dX10_digitsOf_16 : decode cX10_digitsOf 16 = .ok (.iconst 3, 1) := by decide +kernel
theorem dX10_digitsOf_17 : decode cX10_digitsOf 17 = .ok (.goto 4, 3) := by decide +kernel
theorem dX10_digitsOf_20 : decode cX10_digitsOf 20 = .ok (.iconst 2, 1) := by decide +kernel
theorem dX10_digitsOf_21 : decode cX10_digitsOf 21 = .ok (.ireturn, 1) := by decide +kernel
theorem dX10_readsClause_0 : decode cX10_readsClause 0 = .ok (.iload_n 1, 1) := by decide +kernel
theorem dX10_readsClause_1 : decode cX10_readsClause 1 = .ok (.aload_n 0, 1) := by decide +kernel
theorem dX10_readsClause_2 : decode cX10_readsClause 2 = .ok (.getfield 107, 3) := by decide +kernel
theorem dX10_readsClause_5 : decode cX10_readsClause 5 = .ok (.if_icmp .eq 15, 3) := by decide +kernel
theorem dX10_readsClause_8 : decode cX10_readsClause 8 = .ok (.aload_n 0, 1) := by decide +kernel
theorem dX10_readsClause_9 : decode cX10_readsClause 9 = .ok (.getfield 21, 3) := by decide +kernel
theorem dX10_readsClause_12 : decode cX10_readsClause 12 = .ok (.iload_n 1, 1) := by decide +kernel
theorem dX10_readsClause_13 : decode cX10_readsClause 13 = .ok (.iaload, 1) := by decide +kernel
theorem dX10_readsClause_14 : decode cX10_readsClause 14 = .ok (.invokestatic 115, 3) := by decide +kernel
theorem dX10_readsClause_17 : decode cX10_readsClause 17 = .ok (.ifCond .ne 8, 3) := by decide +kernel
theorem dX10_readsClause_20 : decode cX10_readsClause 20 = .ok (.bipush (-10), 2) := by decide +kernel
theorem dX10_readsClause_22 : decode cX10_readsClause 22 = .ok (.iload_n 1, 1) := by decide +kernel
theorem dX10_readsClause_23 : decode cX10_readsClause 23 = .ok (.isub, 1) := by decide +kernel
theorem dX10_readsClause_24 : decode cX10_readsClause 24 = .ok (.ireturn, 1) := by decide +kernel
theorem dX10_readsClause_25 : decode cX10_readsClause 25 = .ok (.aload_n 0, 1) := by decide +kernel
theorem dX10_readsClause_26 : decode cX10_readsClause 26 = .ok (.getfield 21, 3) := by decide +kernel
theorem dX10_readsClause_29 : decode cX10_readsClause 29 = .ok (.iload_n 1, 1) := by decide +kernel
theorem dX10_readsClause_30 : decode cX10_readsClause 30 = .ok (.iaload, 1) := by decide +kernel
theorem dX10_readsClause_31 : decode cX10_readsClause 31 = .ok (.istore_n 3, 1) := by decide +kernel
theorem dX10_readsClause_32 : decode cX10_readsClause 32 = .ok (.aload_n 0, 1) := by decide +kernel
theorem dX10_readsClause_33 : decode cX10_readsClause 33 = .ok (.getfield 24, 3) := by decide +kernel
theorem dX10_readsClause_36 : decode cX10_readsClause 36 = .ok (.iconst 4, 1) := by decide +kernel
theorem dX10_readsClause_37 : decode cX10_readsClause 37 = .ok (.iload_n 2, 1) := by decide +kernel
theorem dX10_readsClause_38 : decode cX10_readsClause 38 = .ok (.imul, 1) := by decide +kernel
theorem dX10_readsClause_39 : decode cX10_readsClause 39 = .ok (.iload_n 3, 1) := by decide +kernel
theorem dX10_readsClause_40 : decode cX10_readsClause 40 = .ok (.iastore, 1) := by decide +kernel
theorem dX10_readsClause_41 : decode cX10_readsClause 41 = .ok (.iload_n 1, 1) := by decide +kernel
theorem dX10_readsClause_42 : decode cX10_readsClause 42 = .ok (.iconst 1, 1) := by decide +kernel
theorem dX10_readsClause_43 : decode cX10_readsClause 43 = .ok (.iadd, 1) := by decide +kernel
theorem dX10_readsClause_44 : decode cX10_readsClause 44 = .ok (.istore 4, 2) := by decide +kernel
theorem dX10_readsClause_46 : decode cX10_readsClause 46 = .ok (.iconst 1, 1) := by decide +kernel
theorem dX10_readsClause_47 : decode cX10_readsClause 47 = .ok (.istore 5, 2) := by decide +kernel
theorem dX10_readsClause_49 : decode cX10_readsClause 49 = .ok (.iload 5, 2) := by decide +kernel
theorem dX10_readsClause_51 : decode cX10_readsClause 51 = .ok (.iload_n 3, 1) := by decide +kernel
theorem dX10_readsClause_52 : decode cX10_readsClause 52 = .ok (.invokestatic 118, 3) := by decide +kernel
theorem dX10_readsClause_55 : decode cX10_readsClause 55 = .ok (.if_icmp .gt 48, 3) := by decide +kernel
theorem dX10_readsClause_58 : decode cX10_readsClause 58 = .ok (.aload_n 0, 1) := by decide +kernel
theorem dX10_readsClause_59 : decode cX10_readsClause 59 = .ok (.iload 4, 2) := by decide +kernel
theorem dX10_readsClause_61 : decode cX10_readsClause 61 = .ok (.invokevirtual 121, 3) := by decide +kernel
theorem dX10_readsClause_64 : decode cX10_readsClause 64 = .ok (.ifCond .ne 9, 3) := by decide +kernel
theorem dX10_readsClause_67 : decode cX10_readsClause 67 = .ok (.bipush (-10), 2) := by decide +kernel
theorem dX10_readsClause_69 : decode cX10_readsClause 69 = .ok (.iload 4, 2) := by decide +kernel
theorem dX10_readsClause_71 : decode cX10_readsClause 71 = .ok (.isub, 1) := by decide +kernel
theorem dX10_readsClause_72 : decode cX10_readsClause 72 = .ok (.ireturn, 1) := by decide +kernel
theorem dX10_readsClause_73 : decode cX10_readsClause 73 = .ok (.aload_n 0, 1) := by decide +kernel
theorem dX10_readsClause_74 : decode cX10_readsClause 74 = .ok (.getfield 24, 3) := by decide +kernel
theorem dX10_readsClause_77 : decode cX10_readsClause 77 = .ok (.iconst 4, 1) := by decide +kernel
theorem dX10_readsClause_78 : decode cX10_readsClause 78 = .ok (.iload_n 2, 1) := by decide +kernel
theorem dX10_readsClause_79 : decode cX10_readsClause 79 = .ok (.imul, 1) := by decide +kernel
theorem dX10_readsClause_80 : decode cX10_readsClause 80 = .ok (.iload 5, 2) := by decide +kernel
theorem dX10_readsClause_82 : decode cX10_readsClause 82 = .ok (.iadd, 1) := by decide +kernel
theorem dX10_readsClause_83 : decode cX10_readsClause 83 = .ok (.aload_n 0, 1) := by decide +kernel
theorem dX10_readsClause_84 : decode cX10_readsClause 84 = .ok (.getfield 21, 3) := by decide +kernel
theorem dX10_readsClause_87 : decode cX10_readsClause 87 = .ok (.iload 4, 2) := by decide +kernel
theorem dX10_readsClause_89 : decode cX10_readsClause 89 = .ok (.iaload, 1) := by decide +kernel
theorem dX10_readsClause_90 : decode cX10_readsClause 90 = .ok (.bipush 48, 2) := by decide +kernel
theorem dX10_readsClause_92 : decode cX10_readsClause 92 = .ok (.isub, 1) := by decide +kernel
theorem dX10_readsClause_93 : decode cX10_readsClause 93 = .ok (.iastore, 1) := by decide +kernel
theorem dX10_readsClause_94 : decode cX10_readsClause 94 = .ok (.iinc 4 1, 3) := by decide +kernel
theorem dX10_readsClause_97 : decode cX10_readsClause 97 = .ok (.iinc 5 1, 3) := by decide +kernel
theorem dX10_readsClause_100 : decode cX10_readsClause 100 = .ok (.goto (-51), 3) := by decide +kernel
theorem dX10_readsClause_103 : decode cX10_readsClause 103 = .ok (.iload_n 3, 1) := by decide +kernel
theorem dX10_readsClause_104 : decode cX10_readsClause 104 = .ok (.bipush 110, 2) := by decide +kernel
theorem dX10_readsClause_106 : decode cX10_readsClause 106 = .ok (.if_icmp .eq 12, 3) := by decide +kernel
theorem dX10_readsClause_109 : decode cX10_readsClause 109 = .ok (.iload_n 3, 1) := by decide +kernel
theorem dX10_readsClause_110 : decode cX10_readsClause 110 = .ok (.bipush 109, 2) := by decide +kernel
theorem dX10_readsClause_112 : decode cX10_readsClause 112 = .ok (.if_icmp .eq 6, 3) := by decide +kernel
theorem dX10_readsClause_115 : decode cX10_readsClause 115 = .ok (.iload 4, 2) := by decide +kernel
theorem dX10_readsClause_117 : decode cX10_readsClause 117 = .ok (.ireturn, 1) := by decide +kernel
theorem dX10_readsClause_118 : decode cX10_readsClause 118 = .ok (.aload_n 0, 1) := by decide +kernel
theorem dX10_readsClause_119 : decode cX10_readsClause 119 = .ok (.iload 4, 2) := by decide +kernel
theorem dX10_readsClause_121 : decode cX10_readsClause 121 = .ok (.invokevirtual 121, 3) := by decide +kernel
theorem dX10_readsClause_124 : decode cX10_readsClause 124 = .ok (.ifCond .ne 9, 3) := by decide +kernel
theorem dX10_readsClause_127 : decode cX10_readsClause 127 = .ok (.bipush (-10), 2) := by decide +kernel
theorem dX10_readsClause_129 : decode cX10_readsClause 129 = .ok (.iload 4, 2) := by decide +kernel
theorem dX10_readsClause_131 : decode cX10_readsClause 131 = .ok (.isub, 1) := by decide +kernel
theorem dX10_readsClause_132 : decode cX10_readsClause 132 = .ok (.ireturn, 1) := by decide +kernel
theorem dX10_readsClause_133 : decode cX10_readsClause 133 = .ok (.aload_n 0, 1) := by decide +kernel
theorem dX10_readsClause_134 : decode cX10_readsClause 134 = .ok (.getfield 24, 3) := by decide +kernel
theorem dX10_readsClause_137 : decode cX10_readsClause 137 = .ok (.iconst 4, 1) := by decide +kernel
theorem dX10_readsClause_138 : decode cX10_readsClause 138 = .ok (.iload_n 2, 1) := by decide +kernel
theorem dX10_readsClause_139 : decode cX10_readsClause 139 = .ok (.imul, 1) := by decide +kernel
theorem dX10_readsClause_140 : decode cX10_readsClause 140 = .ok (.iconst 3, 1) := by decide +kernel
theorem dX10_readsClause_141 : decode cX10_readsClause 141 = .ok (.iadd, 1) := by decide +kernel
theorem dX10_readsClause_142 : decode cX10_readsClause 142 = .ok (.aload_n 0, 1) := by decide +kernel
theorem dX10_readsClause_143 : decode cX10_readsClause 143 = .ok (.getfield 21, 3) := by decide +kernel
theorem dX10_readsClause_146 : decode cX10_readsClause 146 = .ok (.iload 4, 2) := by decide +kernel
theorem dX10_readsClause_148 : decode cX10_readsClause 148 = .ok (.iaload, 1) := by decide +kernel
theorem dX10_readsClause_149 : decode cX10_readsClause 149 = .ok (.bipush 48, 2) := by decide +kernel
theorem dX10_readsClause_151 : decode cX10_readsClause 151 = .ok (.isub, 1) := by decide +kernel
theorem dX10_readsClause_152 : decode cX10_readsClause 152 = .ok (.iastore, 1) := by decide +kernel
theorem dX10_readsClause_153 : decode cX10_readsClause 153 = .ok (.iinc 4 1, 3) := by decide +kernel
theorem dX10_readsClause_156 : decode cX10_readsClause 156 = .ok (.aload_n 0, 1) := by decide +kernel
theorem dX10_readsClause_157 : decode cX10_readsClause 157 = .ok (.iload 4, 2) := by decide +kernel
theorem dX10_readsClause_159 : decode cX10_readsClause 159 = .ok (.invokevirtual 121, 3) := by decide +kernel
theorem dX10_readsClause_162 : decode cX10_readsClause 162 = .ok (.ifCond .eq 40, 3) := by decide +kernel
theorem dX10_readsClause_165 : decode cX10_readsClause 165 = .ok (.aload_n 0, 1) := by decide +kernel
theorem dX10_readsClause_166 : decode cX10_readsClause 166 = .ok (.getfield 24, 3) := by decide +kernel
theorem dX10_readsClause_169 : decode cX10_readsClause 169 = .ok (.iconst 4, 1) := by decide +kernel
theorem dX10_readsClause_170 : decode cX10_readsClause 170 = .ok (.iload_n 2, 1) := by decide +kernel
theorem dX10_readsClause_171 : decode cX10_readsClause 171 = .ok (.imul, 1) := by decide +kernel
theorem dX10_readsClause_172 : decode cX10_readsClause 172 = .ok (.iconst 3, 1) := by decide +kernel
theorem dX10_readsClause_173 : decode cX10_readsClause 173 = .ok (.iadd, 1) := by decide +kernel
theorem dX10_readsClause_174 : decode cX10_readsClause 174 = .ok (.bipush 10, 2) := by decide +kernel
theorem dX10_readsClause_176 : decode cX10_readsClause 176 = .ok (.aload_n 0, 1) := by decide +kernel
theorem dX10_readsClause_177 : decode cX10_readsClause 177 = .ok (.getfield 24, 3) := by decide +kernel
theorem dX10_readsClause_180 : decode cX10_readsClause 180 = .ok (.iconst 4, 1) := by decide +kernel
theorem dX10_readsClause_181 : decode cX10_readsClause 181 = .ok (.iload_n 2, 1) := by decide +kernel
theorem dX10_readsClause_182 : decode cX10_readsClause 182 = .ok (.imul, 1) := by decide +kernel
theorem dX10_readsClause_183 : decode cX10_readsClause 183 = .ok (.iconst 3, 1) := by decide +kernel
theorem dX10_readsClause_184 : decode cX10_readsClause 184 = .ok (.iadd, 1) := by decide +kernel
theorem dX10_readsClause_185 : decode cX10_readsClause 185 = .ok (.iaload, 1) := by decide +kernel
theorem dX10_readsClause_186 : decode cX10_readsClause 186 = .ok (.imul, 1) := by decide +kernel
theorem dX10_readsClause_187 : decode cX10_readsClause 187 = .ok (.aload_n 0, 1) := by decide +kernel
theorem dX10_readsClause_188 : decode cX10_readsClause 188 = .ok (.getfield 21, 3) := by decide +kernel
theorem dX10_readsClause_191 : decode cX10_readsClause 191 = .ok (.iload 4, 2) := by decide +kernel
theorem dX10_readsClause_193 : decode cX10_readsClause 193 = .ok (.iaload, 1) := by decide +kernel
theorem dX10_readsClause_194 : decode cX10_readsClause 194 = .ok (.iadd, 1) := by decide +kernel
theorem dX10_readsClause_195 : decode cX10_readsClause 195 = .ok (.bipush 48, 2) := by decide +kernel
theorem dX10_readsClause_197 : decode cX10_readsClause 197 = .ok (.isub, 1) := by decide +kernel
theorem dX10_readsClause_198 : decode cX10_readsClause 198 = .ok (.iastore, 1) := by decide +kernel
theorem dX10_readsClause_199 : decode cX10_readsClause 199 = .ok (.iinc 4 1, 3) := by decide +kernel
theorem dX10_readsClause_202 : decode cX10_readsClause 202 = .ok (.iload 4, 2) := by decide +kernel
theorem dX10_readsClause_204 : decode cX10_readsClause 204 = .ok (.ireturn, 1) := by decide +kernel
theorem dX10_readsAll_0 : decode cX10_readsAll 0 = .ok (.iconst 0, 1) := by decide +kernel
theorem dX10_readsAll_1 : decode cX10_readsAll 1 = .ok (.istore_n 1, 1) := by decide +kernel
theorem dX10_readsAll_2 : decode cX10_readsAll 2 = .ok (.iconst 0, 1) := by decide +kernel
theorem dX10_readsAll_3 : decode cX10_readsAll 3 = .ok (.istore_n 2, 1) := by decide +kernel
theorem dX10_readsAll_4 : decode cX10_readsAll 4 = .ok (.aload_n 0, 1) := by decide +kernel
theorem dX10_readsAll_5 : decode cX10_readsAll 5 = .ok (.iload_n 2, 1) := by decide +kernel
theorem dX10_readsAll_6 : decode cX10_readsAll 6 = .ok (.iload_n 1, 1) := by decide +kernel
theorem dX10_readsAll_7 : decode cX10_readsAll 7 = .ok (.invokevirtual 124, 3) := by decide +kernel
theorem dX10_readsAll_10 : decode cX10_readsAll 10 = .ok (.istore_n 2, 1) := by decide +kernel
theorem dX10_readsAll_11 : decode cX10_readsAll 11 = .ok (.iload_n 2, 1) := by decide +kernel
theorem dX10_readsAll_12 : decode cX10_readsAll 12 = .ok (.ifCond .ge 5, 3) := by decide +kernel
theorem dX10_readsAll_15 : decode cX10_readsAll 15 = .ok (.iload_n 2, 1) := by decide +kernel
theorem dX10_readsAll_16 : decode cX10_readsAll 16 = .ok (.ireturn, 1) := by decide +kernel
theorem dX10_readsAll_17 : decode cX10_readsAll 17 = .ok (.iinc 1 1, 3) := by decide +kernel
theorem dX10_readsAll_20 : decode cX10_readsAll 20 = .ok (.iload_n 2, 1) := by decide +kernel
theorem dX10_readsAll_21 : decode cX10_readsAll 21 = .ok (.aload_n 0, 1) := by decide +kernel
theorem dX10_readsAll_22 : decode cX10_readsAll 22 = .ok (.getfield 107, 3) := by decide +kernel
theorem dX10_readsAll_25 : decode cX10_readsAll 25 = .ok (.if_icmp .ne 5, 3) := by decide +kernel
theorem dX10_readsAll_28 : decode cX10_readsAll 28 = .ok (.iload_n 1, 1) := by decide +kernel
theorem dX10_readsAll_29 : decode cX10_readsAll 29 = .ok (.ireturn, 1) := by decide +kernel
theorem dX10_readsAll_30 : decode cX10_readsAll 30 = .ok (.aload_n 0, 1) := by decide +kernel
theorem dX10_readsAll_31 : decode cX10_readsAll 31 = .ok (.getfield 21, 3) := by decide +kernel
theorem dX10_readsAll_34 : decode cX10_readsAll 34 = .ok (.iload_n 2, 1) := by decide +kernel
theorem dX10_readsAll_35 : decode cX10_readsAll 35 = .ok (.iaload, 1) := by decide +kernel
theorem dX10_readsAll_36 : decode cX10_readsAll 36 = .ok (.bipush 59, 2) := by decide +kernel
theorem dX10_readsAll_38 : decode cX10_readsAll 38 = .ok (.if_icmp .ne 9, 3) := by decide +kernel
theorem dX10_readsAll_41 : decode cX10_readsAll 41 = .ok (.iload_n 1, 1) := by decide +kernel
theorem dX10_readsAll_42 : decode cX10_readsAll 42 = .ok (.bipush 12, 2) := by decide +kernel
theorem dX10_readsAll_44 : decode cX10_readsAll 44 = .ok (.if_icmp .ne 8, 3) := by decide +kernel
theorem dX10_readsAll_47 : decode cX10_readsAll 47 = .ok (.bipush (-10), 2) := by decide +kernel
theorem dX10_readsAll_49 : decode cX10_readsAll 49 = .ok (.iload_n 2, 1) := by decide +kernel
theorem dX10_readsAll_50 : decode cX10_readsAll 50 = .ok (.isub, 1) := by decide +kernel
theorem dX10_readsAll_51 : decode cX10_readsAll 51 = .ok (.ireturn, 1) := by decide +kernel
theorem dX10_readsAll_52 : decode cX10_readsAll 52 = .ok (.iinc 2 1, 3) := by decide +kernel
theorem dX10_readsAll_55 : decode cX10_readsAll 55 = .ok (.goto (-51), 3) := by decide +kernel
theorem dX10_does_0 : decode cX10_does 0 = .ok (.aload_n 0, 1) := by decide +kernel
theorem dX10_does_1 : decode cX10_does 1 = .ok (.getfield 24, 3) := by decide +kernel
theorem dX10_does_4 : decode cX10_does 4 = .ok (.iconst 4, 1) := by decide +kernel
theorem dX10_does_5 : decode cX10_does 5 = .ok (.iload_n 1, 1) := by decide +kernel
theorem dX10_does_6 : decode cX10_does 6 = .ok (.imul, 1) := by decide +kernel
theorem dX10_does_7 : decode cX10_does 7 = .ok (.iconst 1, 1) := by decide +kernel
theorem dX10_does_8 : decode cX10_does 8 = .ok (.iadd, 1) := by decide +kernel
theorem dX10_does_9 : decode cX10_does 9 = .ok (.iaload, 1) := by decide +kernel
theorem dX10_does_10 : decode cX10_does 10 = .ok (.istore_n 2, 1) := by decide +kernel
theorem dX10_does_11 : decode cX10_does 11 = .ok (.aload_n 0, 1) := by decide +kernel
theorem dX10_does_12 : decode cX10_does 12 = .ok (.getfield 24, 3) := by decide +kernel
theorem dX10_does_15 : decode cX10_does 15 = .ok (.iconst 4, 1) := by decide +kernel
theorem dX10_does_16 : decode cX10_does 16 = .ok (.iload_n 1, 1) := by decide +kernel
theorem dX10_does_17 : decode cX10_does 17 = .ok (.imul, 1) := by decide +kernel
theorem dX10_does_18 : decode cX10_does 18 = .ok (.iconst 2, 1) := by decide +kernel
theorem dX10_does_19 : decode cX10_does 19 = .ok (.iadd, 1) := by decide +kernel
theorem dX10_does_20 : decode cX10_does 20 = .ok (.iaload, 1) := by decide +kernel
theorem dX10_does_21 : decode cX10_does 21 = .ok (.istore_n 3, 1) := by decide +kernel
theorem dX10_does_22 : decode cX10_does 22 = .ok (.aload_n 0, 1) := by decide +kernel
theorem dX10_does_23 : decode cX10_does 23 = .ok (.getfield 24, 3) := by decide +kernel
theorem dX10_does_26 : decode cX10_does 26 = .ok (.iconst 4, 1) := by decide +kernel
theorem dX10_does_27 : decode cX10_does 27 = .ok (.iload_n 1, 1) := by decide +kernel
theorem dX10_does_28 : decode cX10_does 28 = .ok (.imul, 1) := by decide +kernel
theorem dX10_does_29 : decode cX10_does 29 = .ok (.iconst 3, 1) := by decide +kernel
theorem dX10_does_30 : decode cX10_does 30 = .ok (.iadd, 1) := by decide +kernel
theorem dX10_does_31 : decode cX10_does 31 = .ok (.iaload, 1) := by decide +kernel
theorem dX10_does_32 : decode cX10_does 32 = .ok (.istore 4, 2) := by decide +kernel
theorem dX10_does_34 : decode cX10_does 34 = .ok (.aload_n 0, 1) := by decide +kernel
theorem dX10_does_35 : decode cX10_does 35 = .ok (.getfield 24, 3) := by decide +kernel
theorem dX10_does_38 : decode cX10_does 38 = .ok (.iconst 4, 1) := by decide +kernel
theorem dX10_does_39 : decode cX10_does 39 = .ok (.iload_n 1, 1) := by decide +kernel
theorem dX10_does_40 : decode cX10_does 40 = .ok (.imul, 1) := by decide +kernel
theorem dX10_does_41 : decode cX10_does 41 = .ok (.iaload, 1) := by decide +kernel
theorem dX10_does_42 : decode cX10_does 42 = .ok (.tableswitch 116 107 115 #[82, 116, 99, 65, 116, 116, 116, 116, 50], 50) := by decide +kernel
theorem dX10_does_92 : decode cX10_does 92 = .ok (.aload_n 0, 1) := by decide +kernel
theorem dX10_does_93 : decode cX10_does 93 = .ok (.iload_n 2, 1) := by decide +kernel
theorem dX10_does_94 : decode cX10_does 94 = .ok (.iload_n 3, 1) := by decide +kernel
theorem dX10_does_95 : decode cX10_does 95 = .ok (.invokevirtual 64, 3) := by decide +kernel
theorem dX10_does_98 : decode cX10_does 98 = .ok (.ifCond .lt 7, 3) := by decide +kernel
theorem dX10_does_101 : decode cX10_does 101 = .ok (.iconst 1, 1) := by decide +kernel
theorem dX10_does_102 : decode cX10_does 102 = .ok (.goto 4, 3) := by decide +kernel
theorem dX10_does_105 : decode cX10_does 105 = .ok (.iconst 0, 1) := by decide +kernel
theorem dX10_does_106 : decode cX10_does 106 = .ok (.ireturn, 1) := by decide +kernel
theorem dX10_does_107 : decode cX10_does 107 = .ok (.aload_n 0, 1) := by decide +kernel
theorem dX10_does_108 : decode cX10_does 108 = .ok (.iload_n 2, 1) := by decide +kernel
theorem dX10_does_109 : decode cX10_does 109 = .ok (.iload_n 3, 1) := by decide +kernel
theorem dX10_does_110 : decode cX10_does 110 = .ok (.iload 4, 2) := by decide +kernel
theorem dX10_does_112 : decode cX10_does 112 = .ok (.invokevirtual 127, 3) := by decide +kernel
theorem dX10_does_115 : decode cX10_does 115 = .ok (.ifCond .lt 7, 3) := by decide +kernel
theorem dX10_does_118 : decode cX10_does 118 = .ok (.iconst 1, 1) := by decide +kernel
theorem dX10_does_119 : decode cX10_does 119 = .ok (.goto 4, 3) := by decide +kernel
theorem dX10_does_122 : decode cX10_does 122 = .ok (.iconst 0, 1) := by decide +kernel
theorem dX10_does_123 : decode cX10_does 123 = .ok (.ireturn, 1) := by decide +kernel
theorem dX10_does_124 : decode cX10_does 124 = .ok (.aload_n 0, 1) := by decide +kernel
theorem dX10_does_125 : decode cX10_does 125 = .ok (.iload_n 2, 1) := by decide +kernel
theorem dX10_does_126 : decode cX10_does 126 = .ok (.iload_n 3, 1) := by decide +kernel
theorem dX10_does_127 : decode cX10_does 127 = .ok (.iload 4, 2) := by decide +kernel
theorem dX10_does_129 : decode cX10_does 129 = .ok (.invokevirtual 131, 3) := by decide +kernel
theorem dX10_does_132 : decode cX10_does 132 = .ok (.ifCond .lt 7, 3) := by decide +kernel
theorem dX10_does_135 : decode cX10_does 135 = .ok (.iconst 1, 1) := by decide +kernel
theorem dX10_does_136 : decode cX10_does 136 = .ok (.goto 4, 3) := by decide +kernel
theorem dX10_does_139 : decode cX10_does 139 = .ok (.iconst 0, 1) := by decide +kernel
theorem dX10_does_140 : decode cX10_does 140 = .ok (.ireturn, 1) := by decide +kernel
theorem dX10_does_141 : decode cX10_does 141 = .ok (.aload_n 0, 1) := by decide +kernel
theorem dX10_does_142 : decode cX10_does 142 = .ok (.iload_n 2, 1) := by decide +kernel
theorem dX10_does_143 : decode cX10_does 143 = .ok (.iload_n 3, 1) := by decide +kernel
theorem dX10_does_144 : decode cX10_does 144 = .ok (.iload 4, 2) := by decide +kernel
theorem dX10_does_146 : decode cX10_does 146 = .ok (.invokevirtual 134, 3) := by decide +kernel
theorem dX10_does_149 : decode cX10_does 149 = .ok (.ifCond .lt 7, 3) := by decide +kernel
theorem dX10_does_152 : decode cX10_does 152 = .ok (.iconst 1, 1) := by decide +kernel
theorem dX10_does_153 : decode cX10_does 153 = .ok (.goto 4, 3) := by decide +kernel
theorem dX10_does_156 : decode cX10_does 156 = .ok (.iconst 0, 1) := by decide +kernel
theorem dX10_does_157 : decode cX10_does 157 = .ok (.ireturn, 1) := by decide +kernel
theorem dX10_does_158 : decode cX10_does 158 = .ok (.aload_n 0, 1) := by decide +kernel
theorem dX10_does_159 : decode cX10_does 159 = .ok (.getfield 11, 3) := by decide +kernel
theorem dX10_does_162 : decode cX10_does 162 = .ok (.iconst 2, 1) := by decide +kernel
theorem dX10_does_163 : decode cX10_does 163 = .ok (.iconst 1, 1) := by decide +kernel
theorem dX10_does_164 : decode cX10_does 164 = .ok (.aload_n 0, 1) := by decide +kernel
theorem dX10_does_165 : decode cX10_does 165 = .ok (.getfield 11, 3) := by decide +kernel
theorem dX10_does_168 : decode cX10_does 168 = .ok (.iconst 2, 1) := by decide +kernel
theorem dX10_does_169 : decode cX10_does 169 = .ok (.iaload, 1) := by decide +kernel
theorem dX10_does_170 : decode cX10_does 170 = .ok (.isub, 1) := by decide +kernel
theorem dX10_does_171 : decode cX10_does 171 = .ok (.iastore, 1) := by decide +kernel
theorem dX10_does_172 : decode cX10_does 172 = .ok (.iconst 1, 1) := by decide +kernel
theorem dX10_does_173 : decode cX10_does 173 = .ok (.ireturn, 1) := by decide +kernel
theorem dX10_read_0 : decode cX10_read 0 = .ok (.aload_n 0, 1) := by decide +kernel
theorem dX10_read_1 : decode cX10_read 1 = .ok (.invokevirtual 137, 3) := by decide +kernel
theorem dX10_read_4 : decode cX10_read 4 = .ok (.istore_n 1, 1) := by decide +kernel
theorem dX10_read_5 : decode cX10_read 5 = .ok (.aload_n 0, 1) := by decide +kernel
theorem dX10_read_6 : decode cX10_read 6 = .ok (.iconst 0, 1) := by decide +kernel
theorem dX10_read_7 : decode cX10_read 7 = .ok (.putfield 107, 3) := by decide +kernel
theorem dX10_read_10 : decode cX10_read 10 = .ok (.iconst 0, 1) := by decide +kernel
theorem dX10_read_11 : decode cX10_read 11 = .ok (.istore_n 2, 1) := by decide +kernel
theorem dX10_read_12 : decode cX10_read 12 = .ok (.iconst 0, 1) := by decide +kernel
theorem dX10_read_13 : decode cX10_read 13 = .ok (.istore_n 3, 1) := by decide +kernel
theorem dX10_read_14 : decode cX10_read 14 = .ok (.iload_n 3, 1) := by decide +kernel
theorem dX10_read_15 : decode cX10_read 15 = .ok (.iload_n 1, 1) := by decide +kernel
theorem dX10_read_16 : decode cX10_read 16 = .ok (.if_icmp .ge 25, 3) := by decide +kernel
theorem dX10_read_19 : decode cX10_read 19 = .ok (.iload_n 2, 1) := by decide +kernel
theorem dX10_read_20 : decode cX10_read 20 = .ok (.aload_n 0, 1) := by decide +kernel
theorem dX10_read_21 : decode cX10_read 21 = .ok (.iload_n 3, 1) := by decide +kernel
theorem dX10_read_22 : decode cX10_read 22 = .ok (.invokevirtual 140, 3) := by decide +kernel
theorem dX10_read_25 : decode cX10_read 25 = .ok (.ifCond .eq 7, 3) := by decide +kernel
theorem dX10_read_28 : decode cX10_read 28 = .ok (.iconst 1, 1) := by decide +kernel
theorem dX10_read_29 : decode cX10_read 29 = .ok (.goto 4, 3) := by decide +kernel
theorem dX10_read_32 : decode cX10_read 32 = .ok (.iconst 0, 1) := by decide +kernel
theorem dX10_read_33 : decode cX10_read 33 = .ok (.iadd, 1) := by decide +kernel
theorem dX10_read_34 : decode cX10_read 34 = .ok (.istore_n 2, 1) := by decide +kernel
theorem dX10_read_35 : decode cX10_read 35 = .ok (.iinc 3 1, 3) := by decide +kernel
theorem dX10_read_38 : decode cX10_read 38 = .ok (.goto (-24), 3) := by decide +kernel
theorem dX10_read_41 : decode cX10_read 41 = .ok (.iload_n 1, 1) := by decide +kernel
theorem dX10_read_42 : decode cX10_read 42 = .ok (.ifCond .ge 7, 3) := by decide +kernel
theorem dX10_read_45 : decode cX10_read 45 = .ok (.iload_n 1, 1) := by decide +kernel
theorem dX10_read_46 : decode cX10_read 46 = .ok (.goto 4, 3) := by decide +kernel
theorem dX10_read_49 : decode cX10_read 49 = .ok (.iload_n 2, 1) := by decide +kernel
theorem dX10_read_50 : decode cX10_read 50 = .ok (.ireturn, 1) := by decide +kernel
theorem dX10_divisor_0 : decode cX10_divisor 0 = .ok (.lload_n 0, 1) := by decide +kernel
theorem dX10_divisor_1 : decode cX10_divisor 1 = .ok (.lstore 4, 2) := by decide +kernel
theorem dX10_divisor_3 : decode cX10_divisor 3 = .ok (.lload_n 2, 1) := by decide +kernel
theorem dX10_divisor_4 : decode cX10_divisor 4 = .ok (.lstore 6, 2) := by decide +kernel
theorem dX10_divisor_6 : decode cX10_divisor 6 = .ok (.lload 6, 2) := by decide +kernel
theorem dX10_divisor_8 : decode cX10_divisor 8 = .ok (.lconst 0, 1) := by decide +kernel
theorem dX10_divisor_9 : decode cX10_divisor 9 = .ok (.lcmp, 1) := by decide +kernel
theorem dX10_divisor_10 : decode cX10_divisor 10 = .ok (.ifCond .eq 21, 3) := by decide +kernel
theorem dX10_divisor_13 : decode cX10_divisor 13 = .ok (.lload 4, 2) := by decide +kernel
theorem dX10_divisor_15 : decode cX10_divisor 15 = .ok (.lload 6, 2) := by decide +kernel
theorem dX10_divisor_17 : decode cX10_divisor 17 = .ok (.lrem, 1) := by decide +kernel
theorem dX10_divisor_18 : decode cX10_divisor 18 = .ok (.lstore 8, 2) := by decide +kernel
theorem dX10_divisor_20 : decode cX10_divisor 20 = .ok (.lload 6, 2) := by decide +kernel
theorem dX10_divisor_22 : decode cX10_divisor 22 = .ok (.lstore 4, 2) := by decide +kernel
theorem dX10_divisor_24 : decode cX10_divisor 24 = .ok (.lload 8, 2) := by decide +kernel
theorem dX10_divisor_26 : decode cX10_divisor 26 = .ok (.lstore 6, 2) := by decide +kernel
theorem dX10_divisor_28 : decode cX10_divisor 28 = .ok (.goto (-22), 3) := by decide +kernel
theorem dX10_divisor_31 : decode cX10_divisor 31 = .ok (.lload 4, 2) := by decide +kernel
theorem dX10_divisor_33 : decode cX10_divisor 33 = .ok (.lreturn, 1) := by decide +kernel
theorem dX10_worksOut_0 : decode cX10_worksOut 0 = .ok (.lload_n 3, 1) := by decide +kernel
theorem dX10_worksOut_1 : decode cX10_worksOut 1 = .ok (.lload_n 1, 1) := by decide +kernel
theorem dX10_worksOut_2 : decode cX10_worksOut 2 = .ok (.invokestatic 143, 3) := by decide +kernel
theorem dX10_worksOut_5 : decode cX10_worksOut 5 = .ok (.lstore 5, 2) := by decide +kernel
theorem dX10_worksOut_7 : decode cX10_worksOut 7 = .ok (.aload_n 0, 1) := by decide +kernel
theorem dX10_worksOut_8 : decode cX10_worksOut 8 = .ok (.lload_n 1, 1) := by decide +kernel
theorem dX10_worksOut_9 : decode cX10_worksOut 9 = .ok (.lload 5, 2) := by decide +kernel
theorem dX10_worksOut_11 : decode cX10_worksOut 11 = .ok (.ldiv, 1) := by decide +kernel
theorem dX10_worksOut_12 : decode cX10_worksOut 12 = .ok (.putfield 147, 3) := by decide +kernel
theorem dX10_worksOut_15 : decode cX10_worksOut 15 = .ok (.aload_n 0, 1) := by decide +kernel
theorem dX10_worksOut_16 : decode cX10_worksOut 16 = .ok (.lload_n 3, 1) := by decide +kernel
theorem dX10_worksOut_17 : decode cX10_worksOut 17 = .ok (.lload 5, 2) := by decide +kernel
theorem dX10_worksOut_19 : decode cX10_worksOut 19 = .ok (.ldiv, 1) := by decide +kernel
theorem dX10_worksOut_20 : decode cX10_worksOut 20 = .ok (.putfield 151, 3) := by decide +kernel
theorem dX10_worksOut_23 : decode cX10_worksOut 23 = .ok (.aload_n 0, 1) := by decide +kernel
theorem dX10_worksOut_24 : decode cX10_worksOut 24 = .ok (.getfield 147, 3) := by decide +kernel
theorem dX10_worksOut_27 : decode cX10_worksOut 27 = .ok (.ldc2_w 154, 3) := by decide +kernel
theorem dX10_worksOut_30 : decode cX10_worksOut 30 = .ok (.lcmp, 1) := by decide +kernel
theorem dX10_worksOut_31 : decode cX10_worksOut 31 = .ok (.ifCond .gt 18, 3) := by decide +kernel
theorem dX10_worksOut_34 : decode cX10_worksOut 34 = .ok (.aload_n 0, 1) := by decide +kernel
theorem dX10_worksOut_35 : decode cX10_worksOut 35 = .ok (.getfield 151, 3) := by decide +kernel
theorem dX10_worksOut_38 : decode cX10_worksOut 38 = .ok (.ldc2_w 154, 3) := by decide +kernel
theorem dX10_worksOut_41 : decode cX10_worksOut 41 = .ok (.lcmp, 1) := by decide +kernel
theorem dX10_worksOut_42 : decode cX10_worksOut 42 = .ok (.ifCond .gt 7, 3) := by decide +kernel
theorem dX10_worksOut_45 : decode cX10_worksOut 45 = .ok (.iconst 1, 1) := by decide +kernel
theorem dX10_worksOut_46 : decode cX10_worksOut 46 = .ok (.goto 4, 3) := by decide +kernel
theorem dX10_worksOut_49 : decode cX10_worksOut 49 = .ok (.iconst 0, 1) := by decide +kernel
theorem dX10_worksOut_50 : decode cX10_worksOut 50 = .ok (.ireturn, 1) := by decide +kernel
theorem dX10_adds_0 : decode cX10_adds 0 = .ok (.aload_n 0, 1) := by decide +kernel
theorem dX10_adds_1 : decode cX10_adds 1 = .ok (.aload_n 0, 1) := by decide +kernel
theorem dX10_adds_2 : decode cX10_adds 2 = .ok (.getfield 147, 3) := by decide +kernel
theorem dX10_adds_5 : decode cX10_adds 5 = .ok (.lload_n 3, 1) := by decide +kernel
theorem dX10_adds_6 : decode cX10_adds 6 = .ok (.lmul, 1) := by decide +kernel
theorem dX10_adds_7 : decode cX10_adds 7 = .ok (.lload_n 1, 1) := by decide +kernel
theorem dX10_adds_8 : decode cX10_adds 8 = .ok (.aload_n 0, 1) := by decide +kernel
theorem dX10_adds_9 : decode cX10_adds 9 = .ok (.getfield 151, 3) := by decide +kernel
theorem dX10_adds_12 : decode cX10_adds 12 = .ok (.lmul, 1) := by decide +kernel
theorem dX10_adds_13 : decode cX10_adds 13 = .ok (.ladd, 1) := by decide +kernel
theorem dX10_adds_14 : decode cX10_adds 14 = .ok (.aload_n 0, 1) := by decide +kernel
theorem dX10_adds_15 : decode cX10_adds 15 = .ok (.getfield 151, 3) := by decide +kernel
theorem dX10_adds_18 : decode cX10_adds 18 = .ok (.lload_n 3, 1) := by decide +kernel
theorem dX10_adds_19 : decode cX10_adds 19 = .ok (.lmul, 1) := by decide +kernel
theorem dX10_adds_20 : decode cX10_adds 20 = .ok (.invokevirtual 156, 3) := by decide +kernel
theorem dX10_adds_23 : decode cX10_adds 23 = .ok (.ireturn, 1) := by decide +kernel
theorem dX10_sums_0 : decode cX10_sums 0 = .ok (.aload_n 0, 1) := by decide +kernel
theorem dX10_sums_1 : decode cX10_sums 1 = .ok (.lconst 0, 1) := by decide +kernel
theorem dX10_sums_2 : decode cX10_sums 2 = .ok (.putfield 147, 3) := by decide +kernel
theorem dX10_sums_5 : decode cX10_sums 5 = .ok (.aload_n 0, 1) := by decide +kernel
theorem dX10_sums_6 : decode cX10_sums 6 = .ok (.lconst 1, 1) := by decide +kernel
theorem dX10_sums_7 : decode cX10_sums 7 = .ok (.putfield 151, 3) := by decide +kernel
theorem dX10_sums_10 : decode cX10_sums 10 = .ok (.iconst 1, 1) := by decide +kernel
theorem dX10_sums_11 : decode cX10_sums 11 = .ok (.istore_n 3, 1) := by decide +kernel
theorem dX10_sums_12 : decode cX10_sums 12 = .ok (.iconst 0, 1) := by decide +kernel
theorem dX10_sums_13 : decode cX10_sums 13 = .ok (.istore 4, 2) := by decide +kernel
theorem dX10_sums_15 : decode cX10_sums 15 = .ok (.iload 4, 2) := by decide +kernel
theorem dX10_sums_17 : decode cX10_sums 17 = .ok (.bipush 9, 2) := by decide +kernel
theorem dX10_sums_19 : decode cX10_sums 19 = .ok (.if_icmp .ge 59, 3) := by decide +kernel
theorem dX10_sums_22 : decode cX10_sums 22 = .ok (.iload_n 3, 1) := by decide +kernel
theorem dX10_sums_23 : decode cX10_sums 23 = .ok (.ifCond .eq 55, 3) := by decide +kernel
theorem dX10_sums_26 : decode cX10_sums 26 = .ok (.aload_n 0, 1) := by decide +kernel
theorem dX10_sums_27 : decode cX10_sums 27 = .ok (.iload 4, 2) := by decide +kernel
theorem dX10_sums_29 : decode cX10_sums 29 = .ok (.iload_n 1, 1) := by decide +kernel
theorem dX10_sums_30 : decode cX10_sums 30 = .ok (.iload_n 2, 1) := by decide +kernel
theorem dX10_sums_31 : decode cX10_sums 31 = .ok (.invokevirtual 160, 3) := by decide +kernel
theorem dX10_sums_34 : decode cX10_sums 34 = .ok (.ifCond .eq 32, 3) := by decide +kernel
theorem dX10_sums_37 : decode cX10_sums 37 = .ok (.aload_n 0, 1) := by decide +kernel
theorem dX10_sums_38 : decode cX10_sums 38 = .ok (.aload_n 0, 1) := by decide +kernel
theorem dX10_sums_39 : decode cX10_sums 39 = .ok (.getfield 11, 3) := by decide +kernel
theorem dX10_sums_42 : decode cX10_sums 42 = .ok (.bipush 34, 2) := by decide +kernel
theorem dX10_sums_44 : decode cX10_sums 44 = .ok (.iload 4, 2) := by decide +kernel
theorem dX10_sums_46 : decode cX10_sums 46 = .ok (.iadd, 1) := by decide +kernel
theorem dX10_sums_47 : decode cX10_sums 47 = .ok (.iaload, 1) := by decide +kernel
theorem dX10_sums_48 : decode cX10_sums 48 = .ok (.i2l, 1) := by decide +kernel
theorem dX10_sums_49 : decode cX10_sums 49 = .ok (.aload_n 0, 1) := by decide +kernel
theorem dX10_sums_50 : decode cX10_sums 50 = .ok (.getfield 11, 3) := by decide +kernel
theorem dX10_sums_53 : decode cX10_sums 53 = .ok (.bipush 43, 2) := by decide +kernel
theorem dX10_sums_55 : decode cX10_sums 55 = .ok (.iload 4, 2) := by decide +kernel
theorem dX10_sums_57 : decode cX10_sums 57 = .ok (.iadd, 1) := by decide +kernel
theorem dX10_sums_58 : decode cX10_sums 58 = .ok (.iaload, 1) := by decide +kernel
theorem dX10_sums_59 : decode cX10_sums 59 = .ok (.i2l, 1) := by decide +kernel
theorem dX10_sums_60 : decode cX10_sums 60 = .ok (.invokevirtual 164, 3) := by decide +kernel
theorem dX10_sums_63 : decode cX10_sums 63 = .ok (.ifCond .eq 7, 3) := by decide +kernel
theorem dX10_sums_66 : decode cX10_sums 66 = .ok (.iconst 1, 1) := by decide +kernel
theorem dX10_sums_67 : decode cX10_sums 67 = .ok (.goto 4, 3) := by decide +kernel
theorem dX10_sums_70 : decode cX10_sums 70 = .ok (.iconst 0, 1) := by decide +kernel
theorem dX10_sums_71 : decode cX10_sums 71 = .ok (.istore_n 3, 1) := by decide +kernel
theorem dX10_sums_72 : decode cX10_sums 72 = .ok (.iinc 4 1, 3) := by decide +kernel
theorem dX10_sums_75 : decode cX10_sums 75 = .ok (.goto (-60), 3) := by decide +kernel
theorem dX10_sums_78 : decode cX10_sums 78 = .ok (.iload_n 3, 1) := by decide +kernel
theorem dX10_sums_79 : decode cX10_sums 79 = .ok (.ireturn, 1) := by decide +kernel
theorem dX10_fits_0 : decode cX10_fits 0 = .ok (.iconst 0, 1) := by decide +kernel
theorem dX10_fits_1 : decode cX10_fits 1 = .ok (.istore_n 2, 1) := by decide +kernel
theorem dX10_fits_2 : decode cX10_fits 2 = .ok (.iload_n 2, 1) := by decide +kernel
theorem dX10_fits_3 : decode cX10_fits 3 = .ok (.bipush 9, 2) := by decide +kernel
theorem dX10_fits_5 : decode cX10_fits 5 = .ok (.if_icmp .ge 39, 3) := by decide +kernel
theorem dX10_fits_8 : decode cX10_fits 8 = .ok (.aload_n 0, 1) := by decide +kernel
theorem dX10_fits_9 : decode cX10_fits 9 = .ok (.getfield 27, 3) := by decide +kernel
theorem dX10_fits_12 : decode cX10_fits 12 = .ok (.iload_n 2, 1) := by decide +kernel
theorem dX10_fits_13 : decode cX10_fits 13 = .ok (.aload_n 0, 1) := by decide +kernel
theorem dX10_fits_14 : decode cX10_fits 14 = .ok (.getfield 11, 3) := by decide +kernel
theorem dX10_fits_17 : decode cX10_fits 17 = .ok (.bipush 34, 2) := by decide +kernel
theorem dX10_fits_19 : decode cX10_fits 19 = .ok (.iload_n 2, 1) := by decide +kernel
theorem dX10_fits_20 : decode cX10_fits 20 = .ok (.iadd, 1) := by decide +kernel
theorem dX10_fits_21 : decode cX10_fits 21 = .ok (.iaload, 1) := by decide +kernel
theorem dX10_fits_22 : decode cX10_fits 22 = .ok (.iastore, 1) := by decide +kernel
theorem dX10_fits_23 : decode cX10_fits 23 = .ok (.aload_n 0, 1) := by decide +kernel
theorem dX10_fits_24 : decode cX10_fits 24 = .ok (.getfield 30, 3) := by decide +kernel
theorem dX10_fits_27 : decode cX10_fits 27 = .ok (.iload_n 2, 1) := by decide +kernel
theorem dX10_fits_28 : decode cX10_fits 28 = .ok (.aload_n 0, 1) := by decide +kernel
theorem dX10_fits_29 : decode cX10_fits 29 = .ok (.getfield 11, 3) := by decide +kernel
theorem dX10_fits_32 : decode cX10_fits 32 = .ok (.bipush 43, 2) := by decide +kernel
theorem dX10_fits_34 : decode cX10_fits 34 = .ok (.iload_n 2, 1) := by decide +kernel
theorem dX10_fits_35 : decode cX10_fits 35 = .ok (.iadd, 1) := by decide +kernel
theorem dX10_fits_36 : decode cX10_fits 36 = .ok (.iaload, 1) := by decide +kernel
theorem dX10_fits_37 : decode cX10_fits 37 = .ok (.iastore, 1) := by decide +kernel
theorem dX10_fits_38 : decode cX10_fits 38 = .ok (.iinc 2 1, 3) := by decide +kernel
theorem dX10_fits_41 : decode cX10_fits 41 = .ok (.goto (-39), 3) := by decide +kernel
theorem dX10_fits_44 : decode cX10_fits 44 = .ok (.iconst 0, 1) := by decide +kernel
theorem dX10_fits_45 : decode cX10_fits 45 = .ok (.istore_n 2, 1) := by decide +kernel
theorem dX10_fits_46 : decode cX10_fits 46 = .ok (.iload_n 2, 1) := by decide +kernel
theorem dX10_fits_47 : decode cX10_fits 47 = .ok (.aload_n 0, 1) := by decide +kernel
theorem dX10_fits_48 : decode cX10_fits 48 = .ok (.iload_n 1, 1) := by decide +kernel
theorem dX10_fits_49 : decode cX10_fits 49 = .ok (.invokevirtual 78, 3) := by decide +kernel
theorem dX10_fits_52 : decode cX10_fits 52 = .ok (.if_icmp .ge 47, 3) := by decide +kernel
theorem dX10_fits_55 : decode cX10_fits 55 = .ok (.aload_n 0, 1) := by decide +kernel
theorem dX10_fits_56 : decode cX10_fits 56 = .ok (.iload_n 1, 1) := by decide +kernel
theorem dX10_fits_57 : decode cX10_fits 57 = .ok (.iload_n 2, 1) := by decide +kernel
theorem dX10_fits_58 : decode cX10_fits 58 = .ok (.invokevirtual 167, 3) := by decide +kernel
theorem dX10_fits_61 : decode cX10_fits 61 = .ok (.ifCond .eq 29, 3) := by decide +kernel
theorem dX10_fits_64 : decode cX10_fits 64 = .ok (.aload_n 0, 1) := by decide +kernel
theorem dX10_fits_65 : decode cX10_fits 65 = .ok (.getfield 147, 3) := by decide +kernel
theorem dX10_fits_68 : decode cX10_fits 68 = .ok (.lconst 0, 1) := by decide +kernel
theorem dX10_fits_69 : decode cX10_fits 69 = .ok (.lcmp, 1) := by decide +kernel
theorem dX10_fits_70 : decode cX10_fits 70 = .ok (.ifCond .le 23, 3) := by decide +kernel
theorem dX10_fits_73 : decode cX10_fits 73 = .ok (.aload_n 0, 1) := by decide +kernel
theorem dX10_fits_74 : decode cX10_fits 74 = .ok (.iload_n 1, 1) := by decide +kernel
theorem dX10_fits_75 : decode cX10_fits 75 = .ok (.iload_n 2, 1) := by decide +kernel
theorem dX10_fits_76 : decode cX10_fits 76 = .ok (.aload_n 0, 1) := by decide +kernel
theorem dX10_fits_77 : decode cX10_fits 77 = .ok (.getfield 147, 3) := by decide +kernel
theorem dX10_fits_80 : decode cX10_fits 80 = .ok (.aload_n 0, 1) := by decide +kernel
theorem dX10_fits_81 : decode cX10_fits 81 = .ok (.getfield 151, 3) := by decide +kernel
theorem dX10_fits_84 : decode cX10_fits 84 = .ok (.invokevirtual 170, 3) := by decide +kernel
theorem dX10_fits_87 : decode cX10_fits 87 = .ok (.ifCond .ne 6, 3) := by decide +kernel
theorem dX10_fits_90 : decode cX10_fits 90 = .ok (.bipush (-6), 2) := by decide +kernel
theorem dX10_fits_92 : decode cX10_fits 92 = .ok (.ireturn, 1) := by decide +kernel
theorem dX10_fits_93 : decode cX10_fits 93 = .ok (.iinc 2 1, 3) := by decide +kernel
theorem dX10_fits_96 : decode cX10_fits 96 = .ok (.goto (-50), 3) := by decide +kernel
theorem dX10_fits_99 : decode cX10_fits 99 = .ok (.iconst 0, 1) := by decide +kernel
theorem dX10_fits_100 : decode cX10_fits 100 = .ok (.istore_n 2, 1) := by decide +kernel
theorem dX10_fits_101 : decode cX10_fits 101 = .ok (.iconst 0, 1) := by decide +kernel
theorem dX10_fits_102 : decode cX10_fits 102 = .ok (.istore_n 3, 1) := by decide +kernel
theorem dX10_fits_103 : decode cX10_fits 103 = .ok (.iload_n 3, 1) := by decide +kernel
theorem dX10_fits_104 : decode cX10_fits 104 = .ok (.bipush 9, 2) := by decide +kernel
theorem dX10_fits_106 : decode cX10_fits 106 = .ok (.if_icmp .ge 83, 3) := by decide +kernel
theorem dX10_fits_109 : decode cX10_fits 109 = .ok (.iload_n 2, 1) := by decide +kernel
theorem dX10_fits_110 : decode cX10_fits 110 = .ok (.aload_n 0, 1) := by decide +kernel
theorem dX10_fits_111 : decode cX10_fits 111 = .ok (.getfield 27, 3) := by decide +kernel
theorem dX10_fits_114 : decode cX10_fits 114 = .ok (.iload_n 3, 1) := by decide +kernel
theorem dX10_fits_115 : decode cX10_fits 115 = .ok (.iaload, 1) := by decide +kernel
theorem dX10_fits_116 : decode cX10_fits 116 = .ok (.aload_n 0, 1) := by decide +kernel
theorem dX10_fits_117 : decode cX10_fits 117 = .ok (.getfield 11, 3) := by decide +kernel
theorem dX10_fits_120 : decode cX10_fits 120 = .ok (.bipush 34, 2) := by decide +kernel
theorem dX10_fits_122 : decode cX10_fits 122 = .ok (.iload_n 3, 1) := by decide +kernel
theorem dX10_fits_123 : decode cX10_fits 123 = .ok (.iadd, 1) := by decide +kernel
theorem dX10_fits_124 : decode cX10_fits 124 = .ok (.iaload, 1) := by decide +kernel
theorem dX10_fits_125 : decode cX10_fits 125 = .ok (.if_icmp .ne 21, 3) := by decide +kernel
theorem dX10_fits_128 : decode cX10_fits 128 = .ok (.aload_n 0, 1) := by decide +kernel
theorem dX10_fits_129 : decode cX10_fits 129 = .ok (.getfield 30, 3) := by decide +kernel
theorem dX10_fits_132 : decode cX10_fits 132 = .ok (.iload_n 3, 1) := by decide +kernel
theorem dX10_fits_133 : decode cX10_fits 133 = .ok (.iaload, 1) := by decide +kernel
theorem dX10_fits_134 : decode cX10_fits 134 = .ok (.aload_n 0, 1) := by decide +kernel
theorem dX10_fits_135 : decode cX10_fits 135 = .ok (.getfield 11, 3) := by decide +kernel
theorem dX10_fits_138 : decode cX10_fits 138 = .ok (.bipush 43, 2) := by decide +kernel
theorem dX10_fits_140 : decode cX10_fits 140 = .ok (.iload_n 3, 1) := by decide +kernel
theorem dX10_fits_141 : decode cX10_fits 141 = .ok (.iadd, 1) := by decide +kernel
theorem dX10_fits_142 : decode cX10_fits 142 = .ok (.iaload, 1) := by decide +kernel
theorem dX10_fits_143 : decode cX10_fits 143 = .ok (.if_icmp .eq 7, 3) := by decide +kernel
theorem dX10_fits_146 : decode cX10_fits 146 = .ok (.iconst 1, 1) := by decide +kernel
theorem dX10_fits_147 : decode cX10_fits 147 = .ok (.goto 4, 3) := by decide +kernel
theorem dX10_fits_150 : decode cX10_fits 150 = .ok (.iconst 0, 1) := by decide +kernel
theorem dX10_fits_151 : decode cX10_fits 151 = .ok (.iadd, 1) := by decide +kernel
theorem dX10_fits_152 : decode cX10_fits 152 = .ok (.istore_n 2, 1) := by decide +kernel
theorem dX10_fits_153 : decode cX10_fits 153 = .ok (.aload_n 0, 1) := by decide +kernel
theorem dX10_fits_154 : decode cX10_fits 154 = .ok (.getfield 11, 3) := by decide +kernel
theorem dX10_fits_157 : decode cX10_fits 157 = .ok (.bipush 34, 2) := by decide +kernel
theorem dX10_fits_159 : decode cX10_fits 159 = .ok (.iload_n 3, 1) := by decide +kernel
theorem dX10_fits_160 : decode cX10_fits 160 = .ok (.iadd, 1) := by decide +kernel
theorem dX10_fits_161 : decode cX10_fits 161 = .ok (.aload_n 0, 1) := by decide +kernel
theorem dX10_fits_162 : decode cX10_fits 162 = .ok (.getfield 27, 3) := by decide +kernel
theorem dX10_fits_165 : decode cX10_fits 165 = .ok (.iload_n 3, 1) := by decide +kernel
theorem dX10_fits_166 : decode cX10_fits 166 = .ok (.iaload, 1) := by decide +kernel
theorem dX10_fits_167 : decode cX10_fits 167 = .ok (.iastore, 1) := by decide +kernel
theorem dX10_fits_168 : decode cX10_fits 168 = .ok (.aload_n 0, 1) := by decide +kernel
theorem dX10_fits_169 : decode cX10_fits 169 = .ok (.getfield 11, 3) := by decide +kernel
theorem dX10_fits_172 : decode cX10_fits 172 = .ok (.bipush 43, 2) := by decide +kernel
theorem dX10_fits_174 : decode cX10_fits 174 = .ok (.iload_n 3, 1) := by decide +kernel
theorem dX10_fits_175 : decode cX10_fits 175 = .ok (.iadd, 1) := by decide +kernel
theorem dX10_fits_176 : decode cX10_fits 176 = .ok (.aload_n 0, 1) := by decide +kernel
theorem dX10_fits_177 : decode cX10_fits 177 = .ok (.getfield 30, 3) := by decide +kernel
theorem dX10_fits_180 : decode cX10_fits 180 = .ok (.iload_n 3, 1) := by decide +kernel
theorem dX10_fits_181 : decode cX10_fits 181 = .ok (.iaload, 1) := by decide +kernel
theorem dX10_fits_182 : decode cX10_fits 182 = .ok (.iastore, 1) := by decide +kernel
theorem dX10_fits_183 : decode cX10_fits 183 = .ok (.iinc 3 1, 3) := by decide +kernel
theorem dX10_fits_186 : decode cX10_fits 186 = .ok (.goto (-83), 3) := by decide +kernel
theorem dX10_fits_189 : decode cX10_fits 189 = .ok (.iload_n 2, 1) := by decide +kernel
theorem dX10_fits_190 : decode cX10_fits 190 = .ok (.ireturn, 1) := by decide +kernel
theorem dX10_fitsLine_0 : decode cX10_fitsLine 0 = .ok (.iconst 0, 1) := by decide +kernel
theorem dX10_fitsLine_1 : decode cX10_fitsLine 1 = .ok (.istore 7, 2) := by decide +kernel
theorem dX10_fitsLine_3 : decode cX10_fitsLine 3 = .ok (.iload 7, 2) := by decide +kernel
theorem dX10_fitsLine_5 : decode cX10_fitsLine 5 = .ok (.bipush 9, 2) := by decide +kernel
theorem dX10_fitsLine_7 : decode cX10_fitsLine 7 = .ok (.if_icmp .ge 88, 3) := by decide +kernel
theorem dX10_fitsLine_10 : decode cX10_fitsLine 10 = .ok (.aload_n 0, 1) := by decide +kernel
theorem dX10_fitsLine_11 : decode cX10_fitsLine 11 = .ok (.iload 7, 2) := by decide +kernel
theorem dX10_fitsLine_13 : decode cX10_fitsLine 13 = .ok (.iload_n 1, 1) := by decide +kernel
theorem dX10_fitsLine_14 : decode cX10_fitsLine 14 = .ok (.iload_n 2, 1) := by decide +kernel
theorem dX10_fitsLine_15 : decode cX10_fitsLine 15 = .ok (.invokevirtual 160, 3) := by decide +kernel
theorem dX10_fitsLine_18 : decode cX10_fitsLine 18 = .ok (.ifCond .eq 71, 3) := by decide +kernel
theorem dX10_fitsLine_21 : decode cX10_fitsLine 21 = .ok (.aload_n 0, 1) := by decide +kernel
theorem dX10_fitsLine_22 : decode cX10_fitsLine 22 = .ok (.aload_n 0, 1) := by decide +kernel
theorem dX10_fitsLine_23 : decode cX10_fitsLine 23 = .ok (.getfield 11, 3) := by decide +kernel
theorem dX10_fitsLine_26 : decode cX10_fitsLine 26 = .ok (.bipush 34, 2) := by decide +kernel
theorem dX10_fitsLine_28 : decode cX10_fitsLine 28 = .ok (.iload 7, 2) := by decide +kernel
theorem dX10_fitsLine_30 : decode cX10_fitsLine 30 = .ok (.iadd, 1) := by decide +kernel
theorem dX10_fitsLine_31 : decode cX10_fitsLine 31 = .ok (.iaload, 1) := by decide +kernel
theorem dX10_fitsLine_32 : decode cX10_fitsLine 32 = .ok (.i2l, 1) := by decide +kernel
theorem dX10_fitsLine_33 : decode cX10_fitsLine 33 = .ok (.aload_n 0, 1) := by decide +kernel
theorem dX10_fitsLine_34 : decode cX10_fitsLine 34 = .ok (.iload_n 1, 1) := by decide +kernel
theorem dX10_fitsLine_35 : decode cX10_fitsLine 35 = .ok (.iload_n 2, 1) := by decide +kernel
theorem dX10_fitsLine_36 : decode cX10_fitsLine 36 = .ok (.invokevirtual 102, 3) := by decide +kernel
theorem dX10_fitsLine_39 : decode cX10_fitsLine 39 = .ok (.i2l, 1) := by decide +kernel
theorem dX10_fitsLine_40 : decode cX10_fitsLine 40 = .ok (.lmul, 1) := by decide +kernel
theorem dX10_fitsLine_41 : decode cX10_fitsLine 41 = .ok (.lload 5, 2) := by decide +kernel
theorem dX10_fitsLine_43 : decode cX10_fitsLine 43 = .ok (.lmul, 1) := by decide +kernel
theorem dX10_fitsLine_44 : decode cX10_fitsLine 44 = .ok (.aload_n 0, 1) := by decide +kernel
theorem dX10_fitsLine_45 : decode cX10_fitsLine 45 = .ok (.getfield 11, 3) := by decide +kernel
theorem dX10_fitsLine_48 : decode cX10_fitsLine 48 = .ok (.bipush 43, 2) := by decide +kernel
theorem dX10_fitsLine_50 : decode cX10_fitsLine 50 = .ok (.iload 7, 2) := by decide +kernel
theorem dX10_fitsLine_52 : decode cX10_fitsLine 52 = .ok (.iadd, 1) := by decide +kernel
theorem dX10_fitsLine_53 : decode cX10_fitsLine 53 = .ok (.iaload, 1) := by decide +kernel
theorem dX10_fitsLine_54 : decode cX10_fitsLine 54 = .ok (.i2l, 1) := by decide +kernel
theorem dX10_fitsLine_55 : decode cX10_fitsLine 55 = .ok (.lload_n 3, 1) := by decide +kernel
theorem dX10_fitsLine_56 : decode cX10_fitsLine 56 = .ok (.lmul, 1) := by decide +kernel
theorem dX10_fitsLine_57 : decode cX10_fitsLine 57 = .ok (.invokevirtual 156, 3) := by decide +kernel
theorem dX10_fitsLine_60 : decode cX10_fitsLine 60 = .ok (.ifCond .ne 5, 3) := by decide +kernel
theorem dX10_fitsLine_63 : decode cX10_fitsLine 63 = .ok (.iconst 0, 1) := by decide +kernel
theorem dX10_fitsLine_64 : decode cX10_fitsLine 64 = .ok (.ireturn, 1) := by decide +kernel
theorem dX10_fitsLine_65 : decode cX10_fitsLine 65 = .ok (.aload_n 0, 1) := by decide +kernel
theorem dX10_fitsLine_66 : decode cX10_fitsLine 66 = .ok (.getfield 27, 3) := by decide +kernel
theorem dX10_fitsLine_69 : decode cX10_fitsLine 69 = .ok (.iload 7, 2) := by decide +kernel
theorem dX10_fitsLine_71 : decode cX10_fitsLine 71 = .ok (.aload_n 0, 1) := by decide +kernel
theorem dX10_fitsLine_72 : decode cX10_fitsLine 72 = .ok (.getfield 147, 3) := by decide +kernel
theorem dX10_fitsLine_75 : decode cX10_fitsLine 75 = .ok (.l2i, 1) := by decide +kernel
theorem dX10_fitsLine_76 : decode cX10_fitsLine 76 = .ok (.iastore, 1) := by decide +kernel
theorem dX10_fitsLine_77 : decode cX10_fitsLine 77 = .ok (.aload_n 0, 1) := by decide +kernel
theorem dX10_fitsLine_78 : decode cX10_fitsLine 78 = .ok (.getfield 30, 3) := by decide +kernel
theorem dX10_fitsLine_81 : decode cX10_fitsLine 81 = .ok (.iload 7, 2) := by decide +kernel
theorem dX10_fitsLine_83 : decode cX10_fitsLine 83 = .ok (.aload_n 0, 1) := by decide +kernel
theorem dX10_fitsLine_84 : decode cX10_fitsLine 84 = .ok (.getfield 151, 3) := by decide +kernel
theorem dX10_fitsLine_87 : decode cX10_fitsLine 87 = .ok (.l2i, 1) := by decide +kernel
theorem dX10_fitsLine_88 : decode cX10_fitsLine 88 = .ok (.iastore, 1) := by decide +kernel
theorem dX10_fitsLine_89 : decode cX10_fitsLine 89 = .ok (.iinc 7 1, 3) := by decide +kernel
theorem dX10_fitsLine_92 : decode cX10_fitsLine 92 = .ok (.goto (-89), 3) := by decide +kernel
theorem dX10_fitsLine_95 : decode cX10_fitsLine 95 = .ok (.iconst 1, 1) := by decide +kernel
theorem dX10_fitsLine_96 : decode cX10_fitsLine 96 = .ok (.ireturn, 1) := by decide +kernel
theorem dX10_fit_0 : decode cX10_fit 0 = .ok (.iload_n 1, 1) := by decide +kernel
theorem dX10_fit_1 : decode cX10_fit 1 = .ok (.i2l, 1) := by decide +kernel
theorem dX10_fit_2 : decode cX10_fit 2 = .ok (.lconst 0, 1) := by decide +kernel
theorem dX10_fit_3 : decode cX10_fit 3 = .ok (.ldc2_w 76, 3) := by decide +kernel
theorem dX10_fit_6 : decode cX10_fit 6 = .ok (.invokestatic 68, 3) := by decide +kernel
theorem dX10_fit_9 : decode cX10_fit 9 = .ok (.ifCond .ne 5, 3) := by decide +kernel
theorem dX10_fit_12 : decode cX10_fit 12 = .ok (.iconst (-1), 1) := by decide +kernel
theorem dX10_fit_13 : decode cX10_fit 13 = .ok (.ireturn, 1) := by decide +kernel
theorem dX10_fit_14 : decode cX10_fit 14 = .ok (.iload_n 1, 1) := by decide +kernel
theorem dX10_fit_15 : decode cX10_fit 15 = .ok (.iconst 2, 1) := by decide +kernel
theorem dX10_fit_16 : decode cX10_fit 16 = .ok (.if_icmp .ne 17, 3) := by decide +kernel
theorem dX10_fit_19 : decode cX10_fit 19 = .ok (.aload_n 0, 1) := by decide +kernel
theorem dX10_fit_20 : decode cX10_fit 20 = .ok (.getfield 11, 3) := by decide +kernel
theorem dX10_fit_23 : decode cX10_fit 23 = .ok (.iconst 2, 1) := by decide +kernel
theorem dX10_fit_24 : decode cX10_fit 24 = .ok (.iaload, 1) := by decide +kernel
theorem dX10_fit_25 : decode cX10_fit 25 = .ok (.ifCond .ne 8, 3) := by decide +kernel
theorem dX10_fit_28 : decode cX10_fit 28 = .ok (.bipush (-3), 2) := by decide +kernel
theorem dX10_fit_30 : decode cX10_fit 30 = .ok (.goto 8, 3) := by decide +kernel
theorem dX10_fit_33 : decode cX10_fit 33 = .ok (.aload_n 0, 1) := by decide +kernel
theorem dX10_fit_34 : decode cX10_fit 34 = .ok (.iload_n 1, 1) := by decide +kernel
theorem dX10_fit_35 : decode cX10_fit 35 = .ok (.invokevirtual 174, 3) := by decide +kernel
theorem dX10_fit_38 : decode cX10_fit 38 = .ok (.ireturn, 1) := by decide +kernel
theorem dX10_goesRound_0 : decode cX10_goesRound 0 = .ok (.aload_n 0, 1) := by decide +kernel
theorem dX10_goesRound_1 : decode cX10_goesRound 1 = .ok (.getfield 11, 3) := by decide +kernel
theorem dX10_goesRound_4 : decode cX10_goesRound 4 = .ok (.bipush 34, 2) := by decide +kernel
theorem dX10_goesRound_6 : decode cX10_goesRound 6 = .ok (.aload_n 0, 1) := by decide +kernel
theorem dX10_goesRound_7 : decode cX10_goesRound 7 = .ok (.getfield 33, 3) := by decide +kernel
theorem dX10_goesRound_10 : decode cX10_goesRound 10 = .ok (.iconst 0, 1) := by decide +kernel
theorem dX10_goesRound_11 : decode cX10_goesRound 11 = .ok (.bipush 18, 2) := by decide +kernel
theorem dX10_goesRound_13 : decode cX10_goesRound 13 = .ok (.invokestatic 177, 3) := by decide +kernel
theorem dX10_goesRound_16 : decode cX10_goesRound 16 = .ok (.iconst 1, 1) := by decide +kernel
theorem dX10_goesRound_17 : decode cX10_goesRound 17 = .ok (.istore_n 1, 1) := by decide +kernel
theorem dX10_goesRound_18 : decode cX10_goesRound 18 = .ok (.iconst 0, 1) := by decide +kernel
theorem dX10_goesRound_19 : decode cX10_goesRound 19 = .ok (.istore_n 2, 1) := by decide +kernel
theorem dX10_goesRound_20 : decode cX10_goesRound 20 = .ok (.iload_n 2, 1) := by decide +kernel
theorem dX10_goesRound_21 : decode cX10_goesRound 21 = .ok (.iconst 1, 1) := by decide +kernel
theorem dX10_goesRound_22 : decode cX10_goesRound 22 = .ok (.aload_n 0, 1) := by decide +kernel
theorem dX10_goesRound_23 : decode cX10_goesRound 23 = .ok (.getfield 11, 3) := by decide +kernel
theorem dX10_goesRound_26 : decode cX10_goesRound 26 = .ok (.iconst 2, 1) := by decide +kernel
theorem dX10_goesRound_27 : decode cX10_goesRound 27 = .ok (.iaload, 1) := by decide +kernel
theorem dX10_goesRound_28 : decode cX10_goesRound 28 = .ok (.iadd, 1) := by decide +kernel
theorem dX10_goesRound_29 : decode cX10_goesRound 29 = .ok (.if_icmp .gt 29, 3) := by decide +kernel
theorem dX10_goesRound_32 : decode cX10_goesRound 32 = .ok (.iload_n 1, 1) := by decide +kernel
theorem dX10_goesRound_33 : decode cX10_goesRound 33 = .ok (.ifCond .eq 25, 3) := by decide +kernel
theorem dX10_goesRound_36 : decode cX10_goesRound 36 = .ok (.aload_n 0, 1) := by decide +kernel
theorem dX10_goesRound_37 : decode cX10_goesRound 37 = .ok (.iload_n 2, 1) := by decide +kernel
theorem dX10_goesRound_38 : decode cX10_goesRound 38 = .ok (.invokevirtual 174, 3) := by decide +kernel
theorem dX10_goesRound_41 : decode cX10_goesRound 41 = .ok (.bipush (-6), 2) := by decide +kernel
theorem dX10_goesRound_43 : decode cX10_goesRound 43 = .ok (.if_icmp .eq 7, 3) := by decide +kernel
theorem dX10_goesRound_46 : decode cX10_goesRound 46 = .ok (.iconst 1, 1) := by decide +kernel
theorem dX10_goesRound_47 : decode cX10_goesRound 47 = .ok (.goto 4, 3) := by decide +kernel
theorem dX10_goesRound_50 : decode cX10_goesRound 50 = .ok (.iconst 0, 1) := by decide +kernel
theorem dX10_goesRound_51 : decode cX10_goesRound 51 = .ok (.istore_n 1, 1) := by decide +kernel
theorem dX10_goesRound_52 : decode cX10_goesRound 52 = .ok (.iinc 2 1, 3) := by decide +kernel
theorem dX10_goesRound_55 : decode cX10_goesRound 55 = .ok (.goto (-35), 3) := by decide +kernel
theorem dX10_goesRound_58 : decode cX10_goesRound 58 = .ok (.iconst 0, 1) := by decide +kernel
theorem dX10_goesRound_59 : decode cX10_goesRound 59 = .ok (.istore_n 2, 1) := by decide +kernel
theorem dX10_goesRound_60 : decode cX10_goesRound 60 = .ok (.iconst 0, 1) := by decide +kernel
theorem dX10_goesRound_61 : decode cX10_goesRound 61 = .ok (.istore_n 3, 1) := by decide +kernel
theorem dX10_goesRound_62 : decode cX10_goesRound 62 = .ok (.iload_n 3, 1) := by decide +kernel
theorem dX10_goesRound_63 : decode cX10_goesRound 63 = .ok (.bipush 18, 2) := by decide +kernel
theorem dX10_goesRound_65 : decode cX10_goesRound 65 = .ok (.if_icmp .ge 37, 3) := by decide +kernel
theorem dX10_goesRound_68 : decode cX10_goesRound 68 = .ok (.iload_n 2, 1) := by decide +kernel
theorem dX10_goesRound_69 : decode cX10_goesRound 69 = .ok (.ifCond .ne 21, 3) := by decide +kernel
theorem dX10_goesRound_72 : decode cX10_goesRound 72 = .ok (.aload_n 0, 1) := by decide +kernel
theorem dX10_goesRound_73 : decode cX10_goesRound 73 = .ok (.getfield 33, 3) := by decide +kernel
theorem dX10_goesRound_76 : decode cX10_goesRound 76 = .ok (.iload_n 3, 1) := by decide +kernel
theorem dX10_goesRound_77 : decode cX10_goesRound 77 = .ok (.iaload, 1) := by decide +kernel
theorem dX10_goesRound_78 : decode cX10_goesRound 78 = .ok (.aload_n 0, 1) := by decide +kernel
theorem dX10_goesRound_79 : decode cX10_goesRound 79 = .ok (.getfield 11, 3) := by decide +kernel
theorem dX10_goesRound_82 : decode cX10_goesRound 82 = .ok (.bipush 34, 2) := by decide +kernel
theorem dX10_goesRound_84 : decode cX10_goesRound 84 = .ok (.iload_n 3, 1) := by decide +kernel
theorem dX10_goesRound_85 : decode cX10_goesRound 85 = .ok (.iadd, 1) := by decide +kernel
theorem dX10_goesRound_86 : decode cX10_goesRound 86 = .ok (.iaload, 1) := by decide +kernel
theorem dX10_goesRound_87 : decode cX10_goesRound 87 = .ok (.if_icmp .eq 7, 3) := by decide +kernel
theorem dX10_goesRound_90 : decode cX10_goesRound 90 = .ok (.iconst 1, 1) := by decide +kernel
theorem dX10_goesRound_91 : decode cX10_goesRound 91 = .ok (.goto 4, 3) := by decide +kernel
theorem dX10_goesRound_94 : decode cX10_goesRound 94 = .ok (.iconst 0, 1) := by decide +kernel
theorem dX10_goesRound_95 : decode cX10_goesRound 95 = .ok (.istore_n 2, 1) := by decide +kernel
theorem dX10_goesRound_96 : decode cX10_goesRound 96 = .ok (.iinc 3 1, 3) := by decide +kernel
theorem dX10_goesRound_99 : decode cX10_goesRound 99 = .ok (.goto (-37), 3) := by decide +kernel
theorem dX10_goesRound_102 : decode cX10_goesRound 102 = .ok (.iload_n 1, 1) := by decide +kernel
theorem dX10_goesRound_103 : decode cX10_goesRound 103 = .ok (.ifCond .eq 7, 3) := by decide +kernel
theorem dX10_goesRound_106 : decode cX10_goesRound 106 = .ok (.iload_n 2, 1) := by decide +kernel
theorem dX10_goesRound_107 : decode cX10_goesRound 107 = .ok (.ifCond .ne 21, 3) := by decide +kernel
theorem dX10_goesRound_110 : decode cX10_goesRound 110 = .ok (.aload_n 0, 1) := by decide +kernel
theorem dX10_goesRound_111 : decode cX10_goesRound 111 = .ok (.getfield 33, 3) := by decide +kernel
theorem dX10_goesRound_114 : decode cX10_goesRound 114 = .ok (.iconst 0, 1) := by decide +kernel
theorem dX10_goesRound_115 : decode cX10_goesRound 115 = .ok (.aload_n 0, 1) := by decide +kernel
theorem dX10_goesRound_116 : decode cX10_goesRound 116 = .ok (.getfield 11, 3) := by decide +kernel
theorem dX10_goesRound_119 : decode cX10_goesRound 119 = .ok (.bipush 34, 2) := by decide +kernel
theorem dX10_goesRound_121 : decode cX10_goesRound 121 = .ok (.bipush 18, 2) := by decide +kernel
theorem dX10_goesRound_123 : decode cX10_goesRound 123 = .ok (.invokestatic 177, 3) := by decide +kernel
theorem dX10_goesRound_126 : decode cX10_goesRound 126 = .ok (.iconst 0, 1) := by decide +kernel
theorem dX10_goesRound_127 : decode cX10_goesRound 127 = .ok (.ireturn, 1) := by decide +kernel
theorem dX10_goesRound_128 : decode cX10_goesRound 128 = .ok (.aload_n 0, 1) := by decide +kernel
theorem dX10_goesRound_129 : decode cX10_goesRound 129 = .ok (.getfield 11, 3) := by decide +kernel
theorem dX10_goesRound_132 : decode cX10_goesRound 132 = .ok (.iconst 3, 1) := by decide +kernel
theorem dX10_goesRound_133 : decode cX10_goesRound 133 = .ok (.dup2, 1) := by decide +kernel
theorem dX10_goesRound_134 : decode cX10_goesRound 134 = .ok (.iaload, 1) := by decide +kernel
theorem dX10_goesRound_135 : decode cX10_goesRound 135 = .ok (.iconst 1, 1) := by decide +kernel
theorem dX10_goesRound_136 : decode cX10_goesRound 136 = .ok (.iadd, 1) := by decide +kernel
theorem dX10_goesRound_137 : decode cX10_goesRound 137 = .ok (.iastore, 1) := by decide +kernel
theorem dX10_goesRound_138 : decode cX10_goesRound 138 = .ok (.iconst 1, 1) := by decide +kernel
theorem dX10_goesRound_139 : decode cX10_goesRound 139 = .ok (.ireturn, 1) := by decide +kernel
theorem dX10_rounds_0 : decode cX10_rounds 0 = .ok (.iload_n 1, 1) := by decide +kernel
theorem dX10_rounds_1 : decode cX10_rounds 1 = .ok (.i2l, 1) := by decide +kernel
theorem dX10_rounds_2 : decode cX10_rounds 2 = .ok (.lconst 0, 1) := by decide +kernel
theorem dX10_rounds_3 : decode cX10_rounds 3 = .ok (.ldc2_w 92, 3) := by decide +kernel
theorem dX10_rounds_6 : decode cX10_rounds 6 = .ok (.invokestatic 68, 3) := by decide +kernel
theorem dX10_rounds_9 : decode cX10_rounds 9 = .ok (.ifCond .ne 6, 3) := by decide +kernel
theorem dX10_rounds_12 : decode cX10_rounds 12 = .ok (.bipush (-2), 2) := by decide +kernel
theorem dX10_rounds_14 : decode cX10_rounds 14 = .ok (.ireturn, 1) := by decide +kernel
theorem dX10_rounds_15 : decode cX10_rounds 15 = .ok (.iconst 0, 1) := by decide +kernel
theorem dX10_rounds_16 : decode cX10_rounds 16 = .ok (.istore_n 2, 1) := by decide +kernel
theorem dX10_rounds_17 : decode cX10_rounds 17 = .ok (.iload_n 2, 1) := by decide +kernel
theorem dX10_rounds_18 : decode cX10_rounds 18 = .ok (.iload_n 1, 1) := by decide +kernel
theorem dX10_rounds_19 : decode cX10_rounds 19 = .ok (.if_icmp .ge 16, 3) := by decide +kernel
theorem dX10_rounds_22 : decode cX10_rounds 22 = .ok (.aload_n 0, 1) := by decide +kernel
theorem dX10_rounds_23 : decode cX10_rounds 23 = .ok (.invokevirtual 183, 3) := by decide +kernel
theorem dX10_rounds_26 : decode cX10_rounds 26 = .ok (.ifCond .eq 9, 3) := by decide +kernel
theorem dX10_rounds_29 : decode cX10_rounds 29 = .ok (.iinc 2 1, 3) := by decide +kernel
theorem dX10_rounds_32 : decode cX10_rounds 32 = .ok (.goto (-15), 3) := by decide +kernel
theorem dX10_rounds_35 : decode cX10_rounds 35 = .ok (.iload_n 2, 1) := by decide +kernel
theorem dX10_rounds_36 : decode cX10_rounds 36 = .ok (.ireturn, 1) := by decide +kernel
theorem dX10_cell_0 : decode cX10_cell 0 = .ok (.aload_n 0, 1) := by decide +kernel
theorem dX10_cell_1 : decode cX10_cell 1 = .ok (.iload_n 1, 1) := by decide +kernel
theorem dX10_cell_2 : decode cX10_cell 2 = .ok (.iload_n 2, 1) := by decide +kernel
theorem dX10_cell_3 : decode cX10_cell 3 = .ok (.invokevirtual 72, 3) := by decide +kernel
theorem dX10_cell_6 : decode cX10_cell 6 = .ok (.ifCond .eq 36, 3) := by decide +kernel
theorem dX10_cell_9 : decode cX10_cell 9 = .ok (.iload_n 3, 1) := by decide +kernel
theorem dX10_cell_10 : decode cX10_cell 10 = .ok (.invokestatic 187, 3) := by decide +kernel
theorem dX10_cell_13 : decode cX10_cell 13 = .ok (.ifCond .eq 29, 3) := by decide +kernel
theorem dX10_cell_16 : decode cX10_cell 16 = .ok (.aload_n 0, 1) := by decide +kernel
theorem dX10_cell_17 : decode cX10_cell 17 = .ok (.getfield 11, 3) := by decide +kernel
theorem dX10_cell_20 : decode cX10_cell 20 = .ok (.iload_n 3, 1) := by decide +kernel
theorem dX10_cell_21 : decode cX10_cell 21 = .ok (.ifCond .ne 8, 3) := by decide +kernel
theorem dX10_cell_24 : decode cX10_cell 24 = .ok (.bipush 34, 2) := by decide +kernel
theorem dX10_cell_26 : decode cX10_cell 26 = .ok (.goto 5, 3) := by decide +kernel
theorem dX10_cell_29 : decode cX10_cell 29 = .ok (.bipush 43, 2) := by decide +kernel
theorem dX10_cell_31 : decode cX10_cell 31 = .ok (.iconst 3, 1) := by decide +kernel
theorem dX10_cell_32 : decode cX10_cell 32 = .ok (.iload_n 1, 1) := by decide +kernel
theorem dX10_cell_33 : decode cX10_cell 33 = .ok (.imul, 1) := by decide +kernel
theorem dX10_cell_34 : decode cX10_cell 34 = .ok (.iadd, 1) := by decide +kernel
theorem dX10_cell_35 : decode cX10_cell 35 = .ok (.iload_n 2, 1) := by decide +kernel
theorem dX10_cell_36 : decode cX10_cell 36 = .ok (.iadd, 1) := by decide +kernel
theorem dX10_cell_37 : decode cX10_cell 37 = .ok (.iaload, 1) := by decide +kernel
theorem dX10_cell_38 : decode cX10_cell 38 = .ok (.i2l, 1) := by decide +kernel
theorem dX10_cell_39 : decode cX10_cell 39 = .ok (.goto 6, 3) := by decide +kernel
theorem dX10_cell_42 : decode cX10_cell 42 = .ok (.ldc2_w 190, 3) := by decide +kernel
theorem dX10_cell_45 : decode cX10_cell 45 = .ok (.lreturn, 1) := by decide +kernel
theorem dX10_sum_0 : decode cX10_sum 0 = .ok (.aload_n 0, 1) := by decide +kernel
theorem dX10_sum_1 : decode cX10_sum 1 = .ok (.iload_n 1, 1) := by decide +kernel
theorem dX10_sum_2 : decode cX10_sum 2 = .ok (.iload_n 2, 1) := by decide +kernel
theorem dX10_sum_3 : decode cX10_sum 3 = .ok (.invokevirtual 97, 3) := by decide +kernel
theorem dX10_sum_6 : decode cX10_sum 6 = .ok (.ifCond .eq 19, 3) := by decide +kernel
theorem dX10_sum_9 : decode cX10_sum 9 = .ok (.iload_n 3, 1) := by decide +kernel
theorem dX10_sum_10 : decode cX10_sum 10 = .ok (.invokestatic 187, 3) := by decide +kernel
theorem dX10_sum_13 : decode cX10_sum 13 = .ok (.ifCond .eq 12, 3) := by decide +kernel
theorem dX10_sum_16 : decode cX10_sum 16 = .ok (.aload_n 0, 1) := by decide +kernel
theorem dX10_sum_17 : decode cX10_sum 17 = .ok (.iload_n 1, 1) := by decide +kernel
theorem dX10_sum_18 : decode cX10_sum 18 = .ok (.iload_n 2, 1) := by decide +kernel
theorem dX10_sum_19 : decode cX10_sum 19 = .ok (.invokevirtual 167, 3) := by decide +kernel
theorem dX10_sum_22 : decode cX10_sum 22 = .ok (.ifCond .ne 7, 3) := by decide +kernel
theorem dX10_sum_25 : decode cX10_sum 25 = .ok (.ldc2_w 190, 3) := by decide +kernel
theorem dX10_sum_28 : decode cX10_sum 28 = .ok (.lreturn, 1) := by decide +kernel
theorem dX10_sum_29 : decode cX10_sum 29 = .ok (.iload_n 3, 1) := by decide +kernel
theorem dX10_sum_30 : decode cX10_sum 30 = .ok (.ifCond .ne 10, 3) := by decide +kernel
theorem dX10_sum_33 : decode cX10_sum 33 = .ok (.aload_n 0, 1) := by decide +kernel
theorem dX10_sum_34 : decode cX10_sum 34 = .ok (.getfield 147, 3) := by decide +kernel
theorem dX10_sum_37 : decode cX10_sum 37 = .ok (.goto 7, 3) := by decide +kernel
theorem dX10_sum_40 : decode cX10_sum 40 = .ok (.aload_n 0, 1) := by decide +kernel
theorem dX10_sum_41 : decode cX10_sum 41 = .ok (.getfield 151, 3) := by decide +kernel
theorem dX10_sum_44 : decode cX10_sum 44 = .ok (.lreturn, 1) := by decide +kernel
theorem dX10_gaps_0 : decode cX10_gaps 0 = .ok (.aload_n 0, 1) := by decide +kernel
theorem dX10_gaps_1 : decode cX10_gaps 1 = .ok (.getfield 147, 3) := by decide +kernel
theorem dX10_gaps_4 : decode cX10_gaps 4 = .ok (.iload_n 1, 1) := by decide +kernel
theorem dX10_gaps_5 : decode cX10_gaps 5 = .ok (.i2l, 1) := by decide +kernel
theorem dX10_gaps_6 : decode cX10_gaps 6 = .ok (.aload_n 0, 1) := by decide +kernel
theorem dX10_gaps_7 : decode cX10_gaps 7 = .ok (.getfield 151, 3) := by decide +kernel
theorem dX10_gaps_10 : decode cX10_gaps 10 = .ok (.lmul, 1) := by decide +kernel
theorem dX10_gaps_11 : decode cX10_gaps 11 = .ok (.lsub, 1) := by decide +kernel
theorem dX10_gaps_12 : decode cX10_gaps 12 = .ok (.lstore_n 2, 1) := by decide +kernel
theorem dX10_gaps_13 : decode cX10_gaps 13 = .ok (.aload_n 0, 1) := by decide +kernel
theorem dX10_gaps_14 : decode cX10_gaps 14 = .ok (.lload_n 2, 1) := by decide +kernel
theorem dX10_gaps_15 : decode cX10_gaps 15 = .ok (.lconst 0, 1) := by decide +kernel
theorem dX10_gaps_16 : decode cX10_gaps 16 = .ok (.lcmp, 1) := by decide +kernel
theorem dX10_gaps_17 : decode cX10_gaps 17 = .ok (.ifCond .ge 8, 3) := by decide +kernel
theorem dX10_gaps_20 : decode cX10_gaps 20 = .ok (.lload_n 2, 1) := by decide +kernel
theorem dX10_gaps_21 : decode cX10_gaps 21 = .ok (.lneg, 1) := by decide +kernel
theorem dX10_gaps_22 : decode cX10_gaps 22 = .ok (.goto 4, 3) := by decide +kernel
theorem dX10_gaps_25 : decode cX10_gaps 25 = .ok (.lload_n 2, 1) := by decide +kernel
theorem dX10_gaps_26 : decode cX10_gaps 26 = .ok (.aload_n 0, 1) := by decide +kernel
theorem dX10_gaps_27 : decode cX10_gaps 27 = .ok (.getfield 151, 3) := by decide +kernel
theorem dX10_gaps_30 : decode cX10_gaps 30 = .ok (.invokevirtual 156, 3) := by decide +kernel
theorem dX10_gaps_33 : decode cX10_gaps 33 = .ok (.pop, 1) := by decide +kernel
theorem dX10_gaps_34 : decode cX10_gaps 34 = .ok (.return_, 1) := by decide +kernel
theorem dX10_gap_0 : decode cX10_gap 0 = .ok (.aload_n 0, 1) := by decide +kernel
theorem dX10_gap_1 : decode cX10_gap 1 = .ok (.iload_n 1, 1) := by decide +kernel
theorem dX10_gap_2 : decode cX10_gap 2 = .ok (.iload_n 2, 1) := by decide +kernel
theorem dX10_gap_3 : decode cX10_gap 3 = .ok (.invokevirtual 97, 3) := by decide +kernel
theorem dX10_gap_6 : decode cX10_gap 6 = .ok (.ifCond .eq 19, 3) := by decide +kernel
theorem dX10_gap_9 : decode cX10_gap 9 = .ok (.iload_n 3, 1) := by decide +kernel
theorem dX10_gap_10 : decode cX10_gap 10 = .ok (.invokestatic 187, 3) := by decide +kernel
theorem dX10_gap_13 : decode cX10_gap 13 = .ok (.ifCond .eq 12, 3) := by decide +kernel
theorem dX10_gap_16 : decode cX10_gap 16 = .ok (.aload_n 0, 1) := by decide +kernel
theorem dX10_gap_17 : decode cX10_gap 17 = .ok (.iload_n 1, 1) := by decide +kernel
theorem dX10_gap_18 : decode cX10_gap 18 = .ok (.iload_n 2, 1) := by decide +kernel
theorem dX10_gap_19 : decode cX10_gap 19 = .ok (.invokevirtual 167, 3) := by decide +kernel
theorem dX10_gap_22 : decode cX10_gap 22 = .ok (.ifCond .ne 7, 3) := by decide +kernel
theorem dX10_gap_25 : decode cX10_gap 25 = .ok (.ldc2_w 190, 3) := by decide +kernel
theorem dX10_gap_28 : decode cX10_gap 28 = .ok (.lreturn, 1) := by decide +kernel
theorem dX10_gap_29 : decode cX10_gap 29 = .ok (.aload_n 0, 1) := by decide +kernel
theorem dX10_gap_30 : decode cX10_gap 30 = .ok (.aload_n 0, 1) := by decide +kernel
theorem dX10_gap_31 : decode cX10_gap 31 = .ok (.iload_n 1, 1) := by decide +kernel
theorem dX10_gap_32 : decode cX10_gap 32 = .ok (.iload_n 2, 1) := by decide +kernel
theorem dX10_gap_33 : decode cX10_gap 33 = .ok (.invokevirtual 102, 3) := by decide +kernel
theorem dX10_gap_36 : decode cX10_gap 36 = .ok (.invokevirtual 192, 3) := by decide +kernel
theorem dX10_gap_39 : decode cX10_gap 39 = .ok (.iload_n 3, 1) := by decide +kernel
theorem dX10_gap_40 : decode cX10_gap 40 = .ok (.ifCond .ne 10, 3) := by decide +kernel
theorem dX10_gap_43 : decode cX10_gap 43 = .ok (.aload_n 0, 1) := by decide +kernel
theorem dX10_gap_44 : decode cX10_gap 44 = .ok (.getfield 147, 3) := by decide +kernel
theorem dX10_gap_47 : decode cX10_gap 47 = .ok (.goto 7, 3) := by decide +kernel
theorem dX10_gap_50 : decode cX10_gap 50 = .ok (.aload_n 0, 1) := by decide +kernel
theorem dX10_gap_51 : decode cX10_gap 51 = .ok (.getfield 151, 3) := by decide +kernel
theorem dX10_gap_54 : decode cX10_gap 54 = .ok (.lreturn, 1) := by decide +kernel
theorem dX10_farthest_0 : decode cX10_farthest 0 = .ok (.iconst (-1), 1) := by decide +kernel
theorem dX10_farthest_1 : decode cX10_farthest 1 = .ok (.istore_n 1, 1) := by decide +kernel
theorem dX10_farthest_2 : decode cX10_farthest 2 = .ok (.aload_n 0, 1) := by decide +kernel
theorem dX10_farthest_3 : decode cX10_farthest 3 = .ok (.lconst 0, 1) := by decide +kernel
theorem dX10_farthest_4 : decode cX10_farthest 4 = .ok (.putfield 196, 3) := by decide +kernel
theorem dX10_farthest_7 : decode cX10_farthest 7 = .ok (.aload_n 0, 1) := by decide +kernel
theorem dX10_farthest_8 : decode cX10_farthest 8 = .ok (.lconst 1, 1) := by decide +kernel
theorem dX10_farthest_9 : decode cX10_farthest 9 = .ok (.putfield 199, 3) := by decide +kernel
theorem dX10_farthest_12 : decode cX10_farthest 12 = .ok (.iconst 0, 1) := by decide +kernel
theorem dX10_farthest_13 : decode cX10_farthest 13 = .ok (.istore_n 2, 1) := by decide +kernel
theorem dX10_farthest_14 : decode cX10_farthest 14 = .ok (.iload_n 2, 1) := by decide +kernel
theorem dX10_farthest_15 : decode cX10_farthest 15 = .ok (.iconst 1, 1) := by decide +kernel
theorem dX10_farthest_16 : decode cX10_farthest 16 = .ok (.aload_n 0, 1) := by decide +kernel
theorem dX10_farthest_17 : decode cX10_farthest 17 = .ok (.getfield 11, 3) := by decide +kernel
theorem dX10_farthest_20 : decode cX10_farthest 20 = .ok (.iconst 2, 1) := by decide +kernel
theorem dX10_farthest_21 : decode cX10_farthest 21 = .ok (.iaload, 1) := by decide +kernel
theorem dX10_farthest_22 : decode cX10_farthest 22 = .ok (.iadd, 1) := by decide +kernel
theorem dX10_farthest_23 : decode cX10_farthest 23 = .ok (.if_icmp .gt 98, 3) := by decide +kernel
theorem dX10_farthest_26 : decode cX10_farthest 26 = .ok (.iconst 0, 1) := by decide +kernel
theorem dX10_farthest_27 : decode cX10_farthest 27 = .ok (.istore_n 3, 1) := by decide +kernel
theorem dX10_farthest_28 : decode cX10_farthest 28 = .ok (.iload_n 3, 1) := by decide +kernel
theorem dX10_farthest_29 : decode cX10_farthest 29 = .ok (.aload_n 0, 1) := by decide +kernel
theorem dX10_farthest_30 : decode cX10_farthest 30 = .ok (.iload_n 2, 1) := by decide +kernel
theorem dX10_farthest_31 : decode cX10_farthest 31 = .ok (.invokevirtual 78, 3) := by decide +kernel
theorem dX10_farthest_34 : decode cX10_farthest 34 = .ok (.if_icmp .ge 81, 3) := by decide +kernel
theorem dX10_farthest_37 : decode cX10_farthest 37 = .ok (.aload_n 0, 1) := by decide +kernel
theorem dX10_farthest_38 : decode cX10_farthest 38 = .ok (.iload_n 2, 1) := by decide +kernel
theorem dX10_farthest_39 : decode cX10_farthest 39 = .ok (.iload_n 3, 1) := by decide +kernel
theorem dX10_farthest_40 : decode cX10_farthest 40 = .ok (.invokevirtual 167, 3) := by decide +kernel
theorem dX10_farthest_43 : decode cX10_farthest 43 = .ok (.ifCond .ne 6, 3) := by decide +kernel
theorem dX10_farthest_46 : decode cX10_farthest 46 = .ok (.bipush (-6), 2) := by decide +kernel
theorem dX10_farthest_48 : decode cX10_farthest 48 = .ok (.ireturn, 1) := by decide +kernel
theorem dX10_farthest_49 : decode cX10_farthest 49 = .ok (.aload_n 0, 1) := by decide +kernel
theorem dX10_farthest_50 : decode cX10_farthest 50 = .ok (.aload_n 0, 1) := by decide +kernel
theorem dX10_farthest_51 : decode cX10_farthest 51 = .ok (.iload_n 2, 1) := by decide +kernel
theorem dX10_farthest_52 : decode cX10_farthest 52 = .ok (.iload_n 3, 1) := by decide +kernel
theorem dX10_farthest_53 : decode cX10_farthest 53 = .ok (.invokevirtual 102, 3) := by decide +kernel
theorem dX10_farthest_56 : decode cX10_farthest 56 = .ok (.invokevirtual 192, 3) := by decide +kernel
theorem dX10_farthest_59 : decode cX10_farthest 59 = .ok (.iload_n 1, 1) := by decide +kernel
theorem dX10_farthest_60 : decode cX10_farthest 60 = .ok (.iconst (-1), 1) := by decide +kernel
theorem dX10_farthest_61 : decode cX10_farthest 61 = .ok (.if_icmp .eq 25, 3) := by decide +kernel
theorem dX10_farthest_64 : decode cX10_farthest 64 = .ok (.aload_n 0, 1) := by decide +kernel
theorem dX10_farthest_65 : decode cX10_farthest 65 = .ok (.getfield 147, 3) := by decide +kernel
theorem dX10_farthest_68 : decode cX10_farthest 68 = .ok (.aload_n 0, 1) := by decide +kernel
theorem dX10_farthest_69 : decode cX10_farthest 69 = .ok (.getfield 199, 3) := by decide +kernel
theorem dX10_farthest_72 : decode cX10_farthest 72 = .ok (.lmul, 1) := by decide +kernel
theorem dX10_farthest_73 : decode cX10_farthest 73 = .ok (.aload_n 0, 1) := by decide +kernel
theorem dX10_farthest_74 : decode cX10_farthest 74 = .ok (.getfield 196, 3) := by decide +kernel
theorem dX10_farthest_77 : decode cX10_farthest 77 = .ok (.aload_n 0, 1) := by decide +kernel
theorem dX10_farthest_78 : decode cX10_farthest 78 = .ok (.getfield 151, 3) := by decide +kernel
theorem dX10_farthest_81 : decode cX10_farthest 81 = .ok (.lmul, 1) := by decide +kernel
theorem dX10_farthest_82 : decode cX10_farthest 82 = .ok (.lcmp, 1) := by decide +kernel
theorem dX10_farthest_83 : decode cX10_farthest 83 = .ok (.ifCond .le 26, 3) := by decide +kernel
theorem dX10_farthest_86 : decode cX10_farthest 86 = .ok (.bipush 10, 2) := by decide +kernel
theorem dX10_farthest_88 : decode cX10_farthest 88 = .ok (.iload_n 2, 1) := by decide +kernel
theorem dX10_farthest_89 : decode cX10_farthest 89 = .ok (.imul, 1) := by decide +kernel
theorem dX10_farthest_90 : decode cX10_farthest 90 = .ok (.iload_n 3, 1) := by decide +kernel
theorem dX10_farthest_91 : decode cX10_farthest 91 = .ok (.iadd, 1) := by decide +kernel
theorem dX10_farthest_92 : decode cX10_farthest 92 = .ok (.istore_n 1, 1) := by decide +kernel
theorem dX10_farthest_93 : decode cX10_farthest 93 = .ok (.aload_n 0, 1) := by decide +kernel
theorem dX10_farthest_94 : decode cX10_farthest 94 = .ok (.aload_n 0, 1) := by decide +kernel
theorem dX10_farthest_95 : decode cX10_farthest 95 = .ok (.getfield 147, 3) := by decide +kernel
theorem dX10_farthest_98 : decode cX10_farthest 98 = .ok (.putfield 196, 3) := by decide +kernel
theorem dX10_farthest_101 : decode cX10_farthest 101 = .ok (.aload_n 0, 1) := by decide +kernel
theorem dX10_farthest_102 : decode cX10_farthest 102 = .ok (.aload_n 0, 1) := by decide +kernel
theorem dX10_farthest_103 : decode cX10_farthest 103 = .ok (.getfield 151, 3) := by decide +kernel
theorem dX10_farthest_106 : decode cX10_farthest 106 = .ok (.putfield 199, 3) := by decide +kernel
theorem dX10_farthest_109 : decode cX10_farthest 109 = .ok (.iinc 3 1, 3) := by decide +kernel
theorem dX10_farthest_112 : decode cX10_farthest 112 = .ok (.goto (-84), 3) := by decide +kernel
theorem dX10_farthest_115 : decode cX10_farthest 115 = .ok (.iinc 2 1, 3) := by decide +kernel
theorem dX10_farthest_118 : decode cX10_farthest 118 = .ok (.goto (-104), 3) := by decide +kernel
theorem dX10_farthest_121 : decode cX10_farthest 121 = .ok (.iload_n 1, 1) := by decide +kernel
theorem dX10_farthest_122 : decode cX10_farthest 122 = .ok (.ireturn, 1) := by decide +kernel
theorem dX10_rowsTogether_0 : decode cX10_rowsTogether 0 = .ok (.iconst 0, 1) := by decide +kernel
theorem dX10_rowsTogether_1 : decode cX10_rowsTogether 1 = .ok (.istore_n 2, 1) := by decide +kernel
theorem dX10_rowsTogether_2 : decode cX10_rowsTogether 2 = .ok (.iconst 0, 1) := by decide +kernel
theorem dX10_rowsTogether_3 : decode cX10_rowsTogether 3 = .ok (.istore_n 3, 1) := by decide +kernel
theorem dX10_rowsTogether_4 : decode cX10_rowsTogether 4 = .ok (.iload_n 3, 1) := by decide +kernel
theorem dX10_rowsTogether_5 : decode cX10_rowsTogether 5 = .ok (.aload_n 0, 1) := by decide +kernel
theorem dX10_rowsTogether_6 : decode cX10_rowsTogether 6 = .ok (.getfield 11, 3) := by decide +kernel
theorem dX10_rowsTogether_9 : decode cX10_rowsTogether 9 = .ok (.iconst 0, 1) := by decide +kernel
theorem dX10_rowsTogether_10 : decode cX10_rowsTogether 10 = .ok (.iaload, 1) := by decide +kernel
theorem dX10_rowsTogether_11 : decode cX10_rowsTogether 11 = .ok (.if_icmp .ge 31, 3) := by decide +kernel
theorem dX10_rowsTogether_14 : decode cX10_rowsTogether 14 = .ok (.iload_n 2, 1) := by decide +kernel
theorem dX10_rowsTogether_15 : decode cX10_rowsTogether 15 = .ok (.iload_n 1, 1) := by decide +kernel
theorem dX10_rowsTogether_16 : decode cX10_rowsTogether 16 = .ok (.iload_n 3, 1) := by decide +kernel
theorem dX10_rowsTogether_17 : decode cX10_rowsTogether 17 = .ok (.ishr, 1) := by decide +kernel
theorem dX10_rowsTogether_18 : decode cX10_rowsTogether 18 = .ok (.iconst 1, 1) := by decide +kernel
theorem dX10_rowsTogether_19 : decode cX10_rowsTogether 19 = .ok (.iand, 1) := by decide +kernel
theorem dX10_rowsTogether_20 : decode cX10_rowsTogether 20 = .ok (.iconst 1, 1) := by decide +kernel
theorem dX10_rowsTogether_21 : decode cX10_rowsTogether 21 = .ok (.if_icmp .ne 12, 3) := by decide +kernel
theorem dX10_rowsTogether_24 : decode cX10_rowsTogether 24 = .ok (.aload_n 0, 1) := by decide +kernel
theorem dX10_rowsTogether_25 : decode cX10_rowsTogether 25 = .ok (.iconst 0, 1) := by decide +kernel
theorem dX10_rowsTogether_26 : decode cX10_rowsTogether 26 = .ok (.iload_n 3, 1) := by decide +kernel
theorem dX10_rowsTogether_27 : decode cX10_rowsTogether 27 = .ok (.invokevirtual 102, 3) := by decide +kernel
theorem dX10_rowsTogether_30 : decode cX10_rowsTogether 30 = .ok (.goto 4, 3) := by decide +kernel
theorem dX10_rowsTogether_33 : decode cX10_rowsTogether 33 = .ok (.iconst 0, 1) := by decide +kernel
theorem dX10_rowsTogether_34 : decode cX10_rowsTogether 34 = .ok (.iadd, 1) := by decide +kernel
theorem dX10_rowsTogether_35 : decode cX10_rowsTogether 35 = .ok (.istore_n 2, 1) := by decide +kernel
theorem dX10_rowsTogether_36 : decode cX10_rowsTogether 36 = .ok (.iinc 3 1, 3) := by decide +kernel
theorem dX10_rowsTogether_39 : decode cX10_rowsTogether 39 = .ok (.goto (-35), 3) := by decide +kernel
theorem dX10_rowsTogether_42 : decode cX10_rowsTogether 42 = .ok (.iload_n 2, 1) := by decide +kernel
theorem dX10_rowsTogether_43 : decode cX10_rowsTogether 43 = .ok (.ireturn, 1) := by decide +kernel
theorem dX10_reached_0 : decode cX10_reached 0 = .ok (.iconst 0, 1) := by decide +kernel
theorem dX10_reached_1 : decode cX10_reached 1 = .ok (.istore_n 2, 1) := by decide +kernel
theorem dX10_reached_2 : decode cX10_reached 2 = .ok (.iconst 0, 1) := by decide +kernel
theorem dX10_reached_3 : decode cX10_reached 3 = .ok (.istore_n 3, 1) := by decide +kernel
theorem dX10_reached_4 : decode cX10_reached 4 = .ok (.iload_n 3, 1) := by decide +kernel
theorem dX10_reached_5 : decode cX10_reached 5 = .ok (.aload_n 0, 1) := by decide +kernel
theorem dX10_reached_6 : decode cX10_reached 6 = .ok (.getfield 11, 3) := by decide +kernel
theorem dX10_reached_9 : decode cX10_reached 9 = .ok (.iconst 1, 1) := by decide +kernel
theorem dX10_reached_10 : decode cX10_reached 10 = .ok (.iaload, 1) := by decide +kernel
theorem dX10_reached_11 : decode cX10_reached 11 = .ok (.if_icmp .ge 89, 3) := by decide +kernel
theorem dX10_reached_14 : decode cX10_reached 14 = .ok (.iconst 0, 1) := by decide +kernel
theorem dX10_reached_15 : decode cX10_reached 15 = .ok (.istore 4, 2) := by decide +kernel
theorem dX10_reached_17 : decode cX10_reached 17 = .ok (.iconst 0, 1) := by decide +kernel
theorem dX10_reached_18 : decode cX10_reached 18 = .ok (.istore 5, 2) := by decide +kernel
theorem dX10_reached_20 : decode cX10_reached 20 = .ok (.iload 5, 2) := by decide +kernel
theorem dX10_reached_22 : decode cX10_reached 22 = .ok (.aload_n 0, 1) := by decide +kernel
theorem dX10_reached_23 : decode cX10_reached 23 = .ok (.getfield 11, 3) := by decide +kernel
theorem dX10_reached_26 : decode cX10_reached 26 = .ok (.iconst 0, 1) := by decide +kernel
theorem dX10_reached_27 : decode cX10_reached 27 = .ok (.iaload, 1) := by decide +kernel
theorem dX10_reached_28 : decode cX10_reached 28 = .ok (.if_icmp .ge 48, 3) := by decide +kernel
theorem dX10_reached_31 : decode cX10_reached 31 = .ok (.iload 4, 2) := by decide +kernel
theorem dX10_reached_33 : decode cX10_reached 33 = .ok (.ifCond .ne 30, 3) := by decide +kernel
theorem dX10_reached_36 : decode cX10_reached 36 = .ok (.iload_n 1, 1) := by decide +kernel
theorem dX10_reached_37 : decode cX10_reached 37 = .ok (.iload 5, 2) := by decide +kernel
theorem dX10_reached_39 : decode cX10_reached 39 = .ok (.ishr, 1) := by decide +kernel
theorem dX10_reached_40 : decode cX10_reached 40 = .ok (.iconst 1, 1) := by decide +kernel
theorem dX10_reached_41 : decode cX10_reached 41 = .ok (.iand, 1) := by decide +kernel
theorem dX10_reached_42 : decode cX10_reached 42 = .ok (.iconst 1, 1) := by decide +kernel
theorem dX10_reached_43 : decode cX10_reached 43 = .ok (.if_icmp .ne 24, 3) := by decide +kernel
theorem dX10_reached_46 : decode cX10_reached 46 = .ok (.aload_n 0, 1) := by decide +kernel
theorem dX10_reached_47 : decode cX10_reached 47 = .ok (.getfield 11, 3) := by decide +kernel
theorem dX10_reached_50 : decode cX10_reached 50 = .ok (.bipush 7, 2) := by decide +kernel
theorem dX10_reached_52 : decode cX10_reached 52 = .ok (.iconst 3, 1) := by decide +kernel
theorem dX10_reached_53 : decode cX10_reached 53 = .ok (.iload 5, 2) := by decide +kernel
theorem dX10_reached_55 : decode cX10_reached 55 = .ok (.imul, 1) := by decide +kernel
theorem dX10_reached_56 : decode cX10_reached 56 = .ok (.iadd, 1) := by decide +kernel
theorem dX10_reached_57 : decode cX10_reached 57 = .ok (.iload_n 3, 1) := by decide +kernel
theorem dX10_reached_58 : decode cX10_reached 58 = .ok (.iadd, 1) := by decide +kernel
theorem dX10_reached_59 : decode cX10_reached 59 = .ok (.iaload, 1) := by decide +kernel
theorem dX10_reached_60 : decode cX10_reached 60 = .ok (.ifCond .le 7, 3) := by decide +kernel
theorem dX10_reached_63 : decode cX10_reached 63 = .ok (.iconst 1, 1) := by decide +kernel
theorem dX10_reached_64 : decode cX10_reached 64 = .ok (.goto 4, 3) := by decide +kernel
theorem dX10_reached_67 : decode cX10_reached 67 = .ok (.iconst 0, 1) := by decide +kernel
theorem dX10_reached_68 : decode cX10_reached 68 = .ok (.istore 4, 2) := by decide +kernel
theorem dX10_reached_70 : decode cX10_reached 70 = .ok (.iinc 5 1, 3) := by decide +kernel
theorem dX10_reached_73 : decode cX10_reached 73 = .ok (.goto (-53), 3) := by decide +kernel
theorem dX10_reached_76 : decode cX10_reached 76 = .ok (.iload_n 2, 1) := by decide +kernel
theorem dX10_reached_77 : decode cX10_reached 77 = .ok (.iload 4, 2) := by decide +kernel
theorem dX10_reached_79 : decode cX10_reached 79 = .ok (.ifCond .eq 12, 3) := by decide +kernel
theorem dX10_reached_82 : decode cX10_reached 82 = .ok (.aload_n 0, 1) := by decide +kernel
theorem dX10_reached_83 : decode cX10_reached 83 = .ok (.iconst 1, 1) := by decide +kernel
theorem dX10_reached_84 : decode cX10_reached 84 = .ok (.iload_n 3, 1) := by decide +kernel
theorem dX10_reached_85 : decode cX10_reached 85 = .ok (.invokevirtual 102, 3) := by decide +kernel
theorem dX10_reached_88 : decode cX10_reached 88 = .ok (.goto 4, 3) := by decide +kernel
theorem dX10_reached_91 : decode cX10_reached 91 = .ok (.iconst 0, 1) := by decide +kernel
theorem dX10_reached_92 : decode cX10_reached 92 = .ok (.iadd, 1) := by decide +kernel
theorem dX10_reached_93 : decode cX10_reached 93 = .ok (.istore_n 2, 1) := by decide +kernel
theorem dX10_reached_94 : decode cX10_reached 94 = .ok (.iinc 3 1, 3) := by decide +kernel
theorem dX10_reached_97 : decode cX10_reached 97 = .ok (.goto (-93), 3) := by decide +kernel
theorem dX10_reached_100 : decode cX10_reached 100 = .ok (.iload_n 2, 1) := by decide +kernel
theorem dX10_reached_101 : decode cX10_reached 101 = .ok (.ireturn, 1) := by decide +kernel
theorem dX10_sizeOf_0 : decode cX10_sizeOf 0 = .ok (.iload_n 0, 1) := by decide +kernel
theorem dX10_sizeOf_1 : decode cX10_sizeOf 1 = .ok (.iconst 1, 1) := by decide +kernel
theorem dX10_sizeOf_2 : decode cX10_sizeOf 2 = .ok (.iand, 1) := by decide +kernel
theorem dX10_sizeOf_3 : decode cX10_sizeOf 3 = .ok (.iload_n 0, 1) := by decide +kernel
theorem dX10_sizeOf_4 : decode cX10_sizeOf 4 = .ok (.iconst 1, 1) := by decide +kernel
theorem dX10_sizeOf_5 : decode cX10_sizeOf 5 = .ok (.ishr, 1) := by decide +kernel
theorem dX10_sizeOf_6 : decode cX10_sizeOf 6 = .ok (.iconst 1, 1) := by decide +kernel
theorem dX10_sizeOf_7 : decode cX10_sizeOf 7 = .ok (.iand, 1) := by decide +kernel
theorem dX10_sizeOf_8 : decode cX10_sizeOf 8 = .ok (.iadd, 1) := by decide +kernel
theorem dX10_sizeOf_9 : decode cX10_sizeOf 9 = .ok (.iload_n 0, 1) := by decide +kernel
theorem dX10_sizeOf_10 : decode cX10_sizeOf 10 = .ok (.iconst 2, 1) := by decide +kernel
theorem dX10_sizeOf_11 : decode cX10_sizeOf 11 = .ok (.ishr, 1) := by decide +kernel
theorem dX10_sizeOf_12 : decode cX10_sizeOf 12 = .ok (.iconst 1, 1) := by decide +kernel
theorem dX10_sizeOf_13 : decode cX10_sizeOf 13 = .ok (.iand, 1) := by decide +kernel
theorem dX10_sizeOf_14 : decode cX10_sizeOf 14 = .ok (.iadd, 1) := by decide +kernel
theorem dX10_sizeOf_15 : decode cX10_sizeOf 15 = .ok (.ireturn, 1) := by decide +kernel
theorem dX10_forbids_0 : decode cX10_forbids 0 = .ok (.iconst 0, 1) := by decide +kernel
theorem dX10_forbids_1 : decode cX10_forbids 1 = .ok (.istore_n 1, 1) := by decide +kernel
theorem dX10_forbids_2 : decode cX10_forbids 2 = .ok (.iconst 1, 1) := by decide +kernel
theorem dX10_forbids_3 : decode cX10_forbids 3 = .ok (.aload_n 0, 1) := by decide +kernel
theorem dX10_forbids_4 : decode cX10_forbids 4 = .ok (.getfield 11, 3) := by decide +kernel
theorem dX10_forbids_7 : decode cX10_forbids 7 = .ok (.iconst 0, 1) := by decide +kernel
theorem dX10_forbids_8 : decode cX10_forbids 8 = .ok (.iaload, 1) := by decide +kernel
theorem dX10_forbids_9 : decode cX10_forbids 9 = .ok (.ishl, 1) := by decide +kernel
theorem dX10_forbids_10 : decode cX10_forbids 10 = .ok (.iconst 1, 1) := by decide +kernel
theorem dX10_forbids_11 : decode cX10_forbids 11 = .ok (.isub, 1) := by decide +kernel
theorem dX10_forbids_12 : decode cX10_forbids 12 = .ok (.istore_n 2, 1) := by decide +kernel
theorem dX10_forbids_13 : decode cX10_forbids 13 = .ok (.iload_n 2, 1) := by decide +kernel
theorem dX10_forbids_14 : decode cX10_forbids 14 = .ok (.ifCond .le 39, 3) := by decide +kernel
theorem dX10_forbids_17 : decode cX10_forbids 17 = .ok (.aload_n 0, 1) := by decide +kernel
theorem dX10_forbids_18 : decode cX10_forbids 18 = .ok (.iload_n 2, 1) := by decide +kernel
theorem dX10_forbids_19 : decode cX10_forbids 19 = .ok (.invokevirtual 202, 3) := by decide +kernel
theorem dX10_forbids_22 : decode cX10_forbids 22 = .ok (.aload_n 0, 1) := by decide +kernel
theorem dX10_forbids_23 : decode cX10_forbids 23 = .ok (.iload_n 2, 1) := by decide +kernel
theorem dX10_forbids_24 : decode cX10_forbids 24 = .ok (.invokevirtual 205, 3) := by decide +kernel
theorem dX10_forbids_27 : decode cX10_forbids 27 = .ok (.if_icmp .le 20, 3) := by decide +kernel
theorem dX10_forbids_30 : decode cX10_forbids 30 = .ok (.iload_n 1, 1) := by decide +kernel
theorem dX10_forbids_31 : decode cX10_forbids 31 = .ok (.ifCond .eq 14, 3) := by decide +kernel
theorem dX10_forbids_34 : decode cX10_forbids 34 = .ok (.iload_n 2, 1) := by decide +kernel
theorem dX10_forbids_35 : decode cX10_forbids 35 = .ok (.invokestatic 208, 3) := by decide +kernel
theorem dX10_forbids_38 : decode cX10_forbids 38 = .ok (.iload_n 1, 1) := by decide +kernel
theorem dX10_forbids_39 : decode cX10_forbids 39 = .ok (.invokestatic 208, 3) := by decide +kernel
theorem dX10_forbids_42 : decode cX10_forbids 42 = .ok (.if_icmp .gt 5, 3) := by decide +kernel
theorem dX10_forbids_45 : decode cX10_forbids 45 = .ok (.iload_n 2, 1) := by decide +kernel
theorem dX10_forbids_46 : decode cX10_forbids 46 = .ok (.istore_n 1, 1) := by decide +kernel
theorem dX10_forbids_47 : decode cX10_forbids 47 = .ok (.iinc 2 (-1), 3) := by decide +kernel
theorem dX10_forbids_50 : decode cX10_forbids 50 = .ok (.goto (-37), 3) := by decide +kernel
theorem dX10_forbids_53 : decode cX10_forbids 53 = .ok (.iload_n 1, 1) := by decide +kernel
theorem dX10_forbids_54 : decode cX10_forbids 54 = .ok (.ireturn, 1) := by decide +kernel
theorem dX10_surplus_0 : decode cX10_surplus 0 = .ok (.aload_n 0, 1) := by decide +kernel
theorem dX10_surplus_1 : decode cX10_surplus 1 = .ok (.iconst 1, 1) := by decide +kernel
theorem dX10_surplus_2 : decode cX10_surplus 2 = .ok (.aload_n 0, 1) := by decide +kernel
theorem dX10_surplus_3 : decode cX10_surplus 3 = .ok (.getfield 11, 3) := by decide +kernel
theorem dX10_surplus_6 : decode cX10_surplus 6 = .ok (.iconst 0, 1) := by decide +kernel
theorem dX10_surplus_7 : decode cX10_surplus 7 = .ok (.iaload, 1) := by decide +kernel
theorem dX10_surplus_8 : decode cX10_surplus 8 = .ok (.ishl, 1) := by decide +kernel
theorem dX10_surplus_9 : decode cX10_surplus 9 = .ok (.iconst 1, 1) := by decide +kernel
theorem dX10_surplus_10 : decode cX10_surplus 10 = .ok (.isub, 1) := by decide +kernel
theorem dX10_surplus_11 : decode cX10_surplus 11 = .ok (.invokevirtual 202, 3) := by decide +kernel
theorem dX10_surplus_14 : decode cX10_surplus 14 = .ok (.istore_n 1, 1) := by decide +kernel
theorem dX10_surplus_15 : decode cX10_surplus 15 = .ok (.iconst 0, 1) := by decide +kernel
theorem dX10_surplus_16 : decode cX10_surplus 16 = .ok (.istore_n 2, 1) := by decide +kernel
theorem dX10_surplus_17 : decode cX10_surplus 17 = .ok (.iload_n 2, 1) := by decide +kernel
theorem dX10_surplus_18 : decode cX10_surplus 18 = .ok (.aload_n 0, 1) := by decide +kernel
theorem dX10_surplus_19 : decode cX10_surplus 19 = .ok (.getfield 11, 3) := by decide +kernel
theorem dX10_surplus_22 : decode cX10_surplus 22 = .ok (.iconst 1, 1) := by decide +kernel
theorem dX10_surplus_23 : decode cX10_surplus 23 = .ok (.iaload, 1) := by decide +kernel
theorem dX10_surplus_24 : decode cX10_surplus 24 = .ok (.if_icmp .ge 18, 3) := by decide +kernel
theorem dX10_surplus_27 : decode cX10_surplus 27 = .ok (.iload_n 1, 1) := by decide +kernel
theorem dX10_surplus_28 : decode cX10_surplus 28 = .ok (.aload_n 0, 1) := by decide +kernel
theorem dX10_surplus_29 : decode cX10_surplus 29 = .ok (.iconst 1, 1) := by decide +kernel
theorem dX10_surplus_30 : decode cX10_surplus 30 = .ok (.iload_n 2, 1) := by decide +kernel
theorem dX10_surplus_31 : decode cX10_surplus 31 = .ok (.invokevirtual 102, 3) := by decide +kernel
theorem dX10_surplus_34 : decode cX10_surplus 34 = .ok (.isub, 1) := by decide +kernel
theorem dX10_surplus_35 : decode cX10_surplus 35 = .ok (.istore_n 1, 1) := by decide +kernel
theorem dX10_surplus_36 : decode cX10_surplus 36 = .ok (.iinc 2 1, 3) := by decide +kernel
theorem dX10_surplus_39 : decode cX10_surplus 39 = .ok (.goto (-22), 3) := by decide +kernel
theorem dX10_surplus_42 : decode cX10_surplus 42 = .ok (.iload_n 1, 1) := by decide +kernel
theorem dX10_surplus_43 : decode cX10_surplus 43 = .ok (.ireturn, 1) := by decide +kernel
theorem dX10_possible_0 : decode cX10_possible 0 = .ok (.aload_n 0, 1) := by decide +kernel
theorem dX10_possible_1 : decode cX10_possible 1 = .ok (.invokevirtual 211, 3) := by decide +kernel
theorem dX10_possible_4 : decode cX10_possible 4 = .ok (.ifCond .ne 14, 3) := by decide +kernel
theorem dX10_possible_7 : decode cX10_possible 7 = .ok (.aload_n 0, 1) := by decide +kernel
theorem dX10_possible_8 : decode cX10_possible 8 = .ok (.invokevirtual 214, 3) := by decide +kernel
theorem dX10_possible_11 : decode cX10_possible 11 = .ok (.ifCond .ne 7, 3) := by decide +kernel
theorem dX10_possible_14 : decode cX10_possible 14 = .ok (.iconst 1, 1) := by decide +kernel
theorem dX10_possible_15 : decode cX10_possible 15 = .ok (.goto 4, 3) := by decide +kernel
theorem dX10_possible_18 : decode cX10_possible 18 = .ok (.iconst 0, 1) := by decide +kernel
theorem dX10_possible_19 : decode cX10_possible 19 = .ok (.ireturn, 1) := by decide +kernel
theorem dX10_allCounts_0 : decode cX10_allCounts 0 = .ok (.iconst 0, 1) := by decide +kernel
theorem dX10_allCounts_1 : decode cX10_allCounts 1 = .ok (.istore_n 1, 1) := by decide +kernel
theorem dX10_allCounts_2 : decode cX10_allCounts 2 = .ok (.iconst 0, 1) := by decide +kernel
theorem dX10_allCounts_3 : decode cX10_allCounts 3 = .ok (.istore_n 2, 1) := by decide +kernel
theorem dX10_allCounts_4 : decode cX10_allCounts 4 = .ok (.iload_n 2, 1) := by decide +kernel
theorem dX10_allCounts_5 : decode cX10_allCounts 5 = .ok (.bipush 9, 2) := by decide +kernel
theorem dX10_allCounts_7 : decode cX10_allCounts 7 = .ok (.if_icmp .ge 33, 3) := by decide +kernel
theorem dX10_allCounts_10 : decode cX10_allCounts 10 = .ok (.iload_n 1, 1) := by decide +kernel
theorem dX10_allCounts_11 : decode cX10_allCounts 11 = .ok (.aload_n 0, 1) := by decide +kernel
theorem dX10_allCounts_12 : decode cX10_allCounts 12 = .ok (.iload_n 2, 1) := by decide +kernel
theorem dX10_allCounts_13 : decode cX10_allCounts 13 = .ok (.invokevirtual 82, 3) := by decide +kernel
theorem dX10_allCounts_16 : decode cX10_allCounts 16 = .ok (.ifCond .eq 15, 3) := by decide +kernel
theorem dX10_allCounts_19 : decode cX10_allCounts 19 = .ok (.aload_n 0, 1) := by decide +kernel
theorem dX10_allCounts_20 : decode cX10_allCounts 20 = .ok (.getfield 11, 3) := by decide +kernel
theorem dX10_allCounts_23 : decode cX10_allCounts 23 = .ok (.bipush 7, 2) := by decide +kernel
theorem dX10_allCounts_25 : decode cX10_allCounts 25 = .ok (.iload_n 2, 1) := by decide +kernel
theorem dX10_allCounts_26 : decode cX10_allCounts 26 = .ok (.iadd, 1) := by decide +kernel
theorem dX10_allCounts_27 : decode cX10_allCounts 27 = .ok (.iaload, 1) := by decide +kernel
theorem dX10_allCounts_28 : decode cX10_allCounts 28 = .ok (.goto 4, 3) := by decide +kernel
theorem dX10_allCounts_31 : decode cX10_allCounts 31 = .ok (.iconst 0, 1) := by decide +kernel
theorem dX10_allCounts_32 : decode cX10_allCounts 32 = .ok (.iadd, 1) := by decide +kernel
theorem dX10_allCounts_33 : decode cX10_allCounts 33 = .ok (.istore_n 1, 1) := by decide +kernel
theorem dX10_allCounts_34 : decode cX10_allCounts 34 = .ok (.iinc 2 1, 3) := by decide +kernel
theorem dX10_allCounts_37 : decode cX10_allCounts 37 = .ok (.goto (-33), 3) := by decide +kernel
theorem dX10_allCounts_40 : decode cX10_allCounts 40 = .ok (.iload_n 1, 1) := by decide +kernel
theorem dX10_allCounts_41 : decode cX10_allCounts 41 = .ok (.ireturn, 1) := by decide +kernel
theorem dX10_settled_0 : decode cX10_settled 0 = .ok (.aload_n 0, 1) := by decide +kernel
theorem dX10_settled_1 : decode cX10_settled 1 = .ok (.invokevirtual 217, 3) := by decide +kernel
theorem dX10_settled_4 : decode cX10_settled 4 = .ok (.istore_n 1, 1) := by decide +kernel
theorem dX10_settled_5 : decode cX10_settled 5 = .ok (.iload_n 1, 1) := by decide +kernel
theorem dX10_settled_6 : decode cX10_settled 6 = .ok (.bipush (-6), 2) := by decide +kernel
theorem dX10_settled_8 : decode cX10_settled 8 = .ok (.if_icmp .ne 8, 3) := by decide +kernel
theorem dX10_settled_11 : decode cX10_settled 11 = .ok (.bipush (-6), 2) := by decide +kernel
theorem dX10_settled_13 : decode cX10_settled 13 = .ok (.goto 17, 3) := by decide +kernel
theorem dX10_settled_16 : decode cX10_settled 16 = .ok (.aload_n 0, 1) := by decide +kernel
theorem dX10_settled_17 : decode cX10_settled 17 = .ok (.getfield 196, 3) := by decide +kernel
theorem dX10_settled_20 : decode cX10_settled 20 = .ok (.lconst 0, 1) := by decide +kernel
theorem dX10_settled_21 : decode cX10_settled 21 = .ok (.lcmp, 1) := by decide +kernel
theorem dX10_settled_22 : decode cX10_settled 22 = .ok (.ifCond .ne 7, 3) := by decide +kernel
theorem dX10_settled_25 : decode cX10_settled 25 = .ok (.iconst 1, 1) := by decide +kernel
theorem dX10_settled_26 : decode cX10_settled 26 = .ok (.goto 4, 3) := by decide +kernel
theorem dX10_settled_29 : decode cX10_settled 29 = .ok (.iconst 0, 1) := by decide +kernel
theorem dX10_settled_30 : decode cX10_settled 30 = .ok (.ireturn, 1) := by decide +kernel
theorem dX10_told_0 : decode cX10_told 0 = .ok (.iload_n 1, 1) := by decide +kernel
theorem dX10_told_1 : decode cX10_told 1 = .ok (.tableswitch 95 0 7 #[47, 54, 61, 68, 75, 80, 85, 90], 47) := by decide +kernel
theorem dX10_told_48 : decode cX10_told 48 = .ok (.aload_n 0, 1) := by decide +kernel
theorem dX10_told_49 : decode cX10_told 49 = .ok (.getfield 11, 3) := by decide +kernel
theorem dX10_told_52 : decode cX10_told 52 = .ok (.iconst 0, 1) := by decide +kernel
theorem dX10_told_53 : decode cX10_told 53 = .ok (.iaload, 1) := by decide +kernel
theorem dX10_told_54 : decode cX10_told 54 = .ok (.ireturn, 1) := by decide +kernel
theorem dX10_told_55 : decode cX10_told 55 = .ok (.aload_n 0, 1) := by decide +kernel
theorem dX10_told_56 : decode cX10_told 56 = .ok (.getfield 11, 3) := by decide +kernel
theorem dX10_told_59 : decode cX10_told 59 = .ok (.iconst 1, 1) := by decide +kernel
theorem dX10_told_60 : decode cX10_told 60 = .ok (.iaload, 1) := by decide +kernel
theorem dX10_told_61 : decode cX10_told 61 = .ok (.ireturn, 1) := by decide +kernel
theorem dX10_told_62 : decode cX10_told 62 = .ok (.aload_n 0, 1) := by decide +kernel
theorem dX10_told_63 : decode cX10_told 63 = .ok (.getfield 11, 3) := by decide +kernel
theorem dX10_told_66 : decode cX10_told 66 = .ok (.iconst 2, 1) := by decide +kernel
theorem dX10_told_67 : decode cX10_told 67 = .ok (.iaload, 1) := by decide +kernel
theorem dX10_told_68 : decode cX10_told 68 = .ok (.ireturn, 1) := by decide +kernel
theorem dX10_told_69 : decode cX10_told 69 = .ok (.aload_n 0, 1) := by decide +kernel
theorem dX10_told_70 : decode cX10_told 70 = .ok (.getfield 11, 3) := by decide +kernel
theorem dX10_told_73 : decode cX10_told 73 = .ok (.iconst 3, 1) := by decide +kernel
theorem dX10_told_74 : decode cX10_told 74 = .ok (.iaload, 1) := by decide +kernel
theorem dX10_told_75 : decode cX10_told 75 = .ok (.ireturn, 1) := by decide +kernel
theorem dX10_told_76 : decode cX10_told 76 = .ok (.aload_n 0, 1) := by decide +kernel
theorem dX10_told_77 : decode cX10_told 77 = .ok (.invokevirtual 220, 3) := by decide +kernel
theorem dX10_told_80 : decode cX10_told 80 = .ok (.ireturn, 1) := by decide +kernel
theorem dX10_told_81 : decode cX10_told 81 = .ok (.aload_n 0, 1) := by decide +kernel
theorem dX10_told_82 : decode cX10_told 82 = .ok (.invokevirtual 223, 3) := by decide +kernel
theorem dX10_told_85 : decode cX10_told 85 = .ok (.ireturn, 1) := by decide +kernel
theorem dX10_told_86 : decode cX10_told 86 = .ok (.aload_n 0, 1) := by decide +kernel
theorem dX10_told_87 : decode cX10_told 87 = .ok (.invokevirtual 214, 3) := by decide +kernel
theorem dX10_told_90 : decode cX10_told 90 = .ok (.ireturn, 1) := by decide +kernel
theorem dX10_told_91 : decode cX10_told 91 = .ok (.aload_n 0, 1) := by decide +kernel
theorem dX10_told_92 : decode cX10_told 92 = .ok (.invokevirtual 226, 3) := by decide +kernel
theorem dX10_told_95 : decode cX10_told 95 = .ok (.ireturn, 1) := by decide +kernel
theorem dX10_told_96 : decode cX10_told 96 = .ok (.iconst (-1), 1) := by decide +kernel
theorem dX10_told_97 : decode cX10_told 97 = .ok (.ireturn, 1) := by decide +kernel
theorem dX10_down_0 : decode cX10_down 0 = .ok (.aload_n 0, 1) := by decide +kernel
theorem dX10_down_1 : decode cX10_down 1 = .ok (.getfield 147, 3) := by decide +kernel
theorem dX10_down_4 : decode cX10_down 4 = .ok (.aload_n 0, 1) := by decide +kernel
theorem dX10_down_5 : decode cX10_down 5 = .ok (.getfield 151, 3) := by decide +kernel
theorem dX10_down_8 : decode cX10_down 8 = .ok (.ldiv, 1) := by decide +kernel
theorem dX10_down_9 : decode cX10_down 9 = .ok (.l2i, 1) := by decide +kernel
theorem dX10_down_10 : decode cX10_down 10 = .ok (.ireturn, 1) := by decide +kernel
theorem dX10_up_0 : decode cX10_up 0 = .ok (.aload_n 0, 1) := by decide +kernel
theorem dX10_up_1 : decode cX10_up 1 = .ok (.getfield 147, 3) := by decide +kernel
theorem dX10_up_4 : decode cX10_up 4 = .ok (.aload_n 0, 1) := by decide +kernel
theorem dX10_up_5 : decode cX10_up 5 = .ok (.getfield 151, 3) := by decide +kernel
theorem dX10_up_8 : decode cX10_up 8 = .ok (.ladd, 1) := by decide +kernel
theorem dX10_up_9 : decode cX10_up 9 = .ok (.lconst 1, 1) := by decide +kernel
theorem dX10_up_10 : decode cX10_up 10 = .ok (.lsub, 1) := by decide +kernel
theorem dX10_up_11 : decode cX10_up 11 = .ok (.aload_n 0, 1) := by decide +kernel
theorem dX10_up_12 : decode cX10_up 12 = .ok (.getfield 151, 3) := by decide +kernel
theorem dX10_up_15 : decode cX10_up 15 = .ok (.ldiv, 1) := by decide +kernel
theorem dX10_up_16 : decode cX10_up 16 = .ok (.l2i, 1) := by decide +kernel
theorem dX10_up_17 : decode cX10_up 17 = .ok (.ireturn, 1) := by decide +kernel
theorem dX10_hasLimits_0 : decode cX10_hasLimits 0 = .ok (.iconst 0, 1) := by decide +kernel
theorem dX10_hasLimits_1 : decode cX10_hasLimits 1 = .ok (.istore_n 1, 1) := by decide +kernel
theorem dX10_hasLimits_2 : decode cX10_hasLimits 2 = .ok (.iload_n 1, 1) := by decide +kernel
theorem dX10_hasLimits_3 : decode cX10_hasLimits 3 = .ok (.iconst 2, 1) := by decide +kernel
theorem dX10_hasLimits_4 : decode cX10_hasLimits 4 = .ok (.if_icmp .ge 65, 3) := by decide +kernel
theorem dX10_hasLimits_7 : decode cX10_hasLimits 7 = .ok (.iconst 0, 1) := by decide +kernel
theorem dX10_hasLimits_8 : decode cX10_hasLimits 8 = .ok (.istore_n 2, 1) := by decide +kernel
theorem dX10_hasLimits_9 : decode cX10_hasLimits 9 = .ok (.iload_n 2, 1) := by decide +kernel
theorem dX10_hasLimits_10 : decode cX10_hasLimits 10 = .ok (.aload_n 0, 1) := by decide +kernel
theorem dX10_hasLimits_11 : decode cX10_hasLimits 11 = .ok (.iload_n 1, 1) := by decide +kernel
theorem dX10_hasLimits_12 : decode cX10_hasLimits 12 = .ok (.invokevirtual 78, 3) := by decide +kernel
theorem dX10_hasLimits_15 : decode cX10_hasLimits 15 = .ok (.if_icmp .ge 48, 3) := by decide +kernel
theorem dX10_hasLimits_18 : decode cX10_hasLimits 18 = .ok (.aload_n 0, 1) := by decide +kernel
theorem dX10_hasLimits_19 : decode cX10_hasLimits 19 = .ok (.iload_n 1, 1) := by decide +kernel
theorem dX10_hasLimits_20 : decode cX10_hasLimits 20 = .ok (.iload_n 2, 1) := by decide +kernel
theorem dX10_hasLimits_21 : decode cX10_hasLimits 21 = .ok (.invokevirtual 167, 3) := by decide +kernel
theorem dX10_hasLimits_24 : decode cX10_hasLimits 24 = .ok (.ifCond .ne 5, 3) := by decide +kernel
theorem dX10_hasLimits_27 : decode cX10_hasLimits 27 = .ok (.iconst 0, 1) := by decide +kernel
theorem dX10_hasLimits_28 : decode cX10_hasLimits 28 = .ok (.ireturn, 1) := by decide +kernel
theorem dX10_hasLimits_29 : decode cX10_hasLimits 29 = .ok (.aload_n 0, 1) := by decide +kernel
theorem dX10_hasLimits_30 : decode cX10_hasLimits 30 = .ok (.getfield 36, 3) := by decide +kernel
theorem dX10_hasLimits_33 : decode cX10_hasLimits 33 = .ok (.iconst 3, 1) := by decide +kernel
theorem dX10_hasLimits_34 : decode cX10_hasLimits 34 = .ok (.iload_n 1, 1) := by decide +kernel
theorem dX10_hasLimits_35 : decode cX10_hasLimits 35 = .ok (.imul, 1) := by decide +kernel
theorem dX10_hasLimits_36 : decode cX10_hasLimits 36 = .ok (.iload_n 2, 1) := by decide +kernel
theorem dX10_hasLimits_37 : decode cX10_hasLimits 37 = .ok (.iadd, 1) := by decide +kernel
theorem dX10_hasLimits_38 : decode cX10_hasLimits 38 = .ok (.aload_n 0, 1) := by decide +kernel
theorem dX10_hasLimits_39 : decode cX10_hasLimits 39 = .ok (.invokevirtual 229, 3) := by decide +kernel
theorem dX10_hasLimits_42 : decode cX10_hasLimits 42 = .ok (.iastore, 1) := by decide +kernel
theorem dX10_hasLimits_43 : decode cX10_hasLimits 43 = .ok (.aload_n 0, 1) := by decide +kernel
theorem dX10_hasLimits_44 : decode cX10_hasLimits 44 = .ok (.getfield 39, 3) := by decide +kernel
theorem dX10_hasLimits_47 : decode cX10_hasLimits 47 = .ok (.iconst 3, 1) := by decide +kernel
theorem dX10_hasLimits_48 : decode cX10_hasLimits 48 = .ok (.iload_n 1, 1) := by decide +kernel
theorem dX10_hasLimits_49 : decode cX10_hasLimits 49 = .ok (.imul, 1) := by decide +kernel
theorem dX10_hasLimits_50 : decode cX10_hasLimits 50 = .ok (.iload_n 2, 1) := by decide +kernel
theorem dX10_hasLimits_51 : decode cX10_hasLimits 51 = .ok (.iadd, 1) := by decide +kernel
theorem dX10_hasLimits_52 : decode cX10_hasLimits 52 = .ok (.aload_n 0, 1) := by decide +kernel
theorem dX10_hasLimits_53 : decode cX10_hasLimits 53 = .ok (.invokevirtual 232, 3) := by decide +kernel
theorem dX10_hasLimits_56 : decode cX10_hasLimits 56 = .ok (.iastore, 1) := by decide +kernel
theorem dX10_hasLimits_57 : decode cX10_hasLimits 57 = .ok (.iinc 2 1, 3) := by decide +kernel
theorem dX10_hasLimits_60 : decode cX10_hasLimits 60 = .ok (.goto (-51), 3) := by decide +kernel
theorem dX10_hasLimits_63 : decode cX10_hasLimits 63 = .ok (.iinc 1 1, 3) := by decide +kernel
theorem dX10_hasLimits_66 : decode cX10_hasLimits 66 = .ok (.goto (-64), 3) := by decide +kernel
theorem dX10_hasLimits_69 : decode cX10_hasLimits 69 = .ok (.lconst 0, 1) := by decide +kernel
theorem dX10_hasLimits_70 : decode cX10_hasLimits 70 = .ok (.lstore_n 1, 1) := by decide +kernel
theorem dX10_hasLimits_71 : decode cX10_hasLimits 71 = .ok (.lconst 1, 1) := by decide +kernel
theorem dX10_hasLimits_72 : decode cX10_hasLimits 72 = .ok (.lstore_n 3, 1) := by decide +kernel
theorem dX10_hasLimits_73 : decode cX10_hasLimits 73 = .ok (.iconst 0, 1) := by decide +kernel
theorem dX10_hasLimits_74 : decode cX10_hasLimits 74 = .ok (.istore 5, 2) := by decide +kernel
theorem dX10_hasLimits_76 : decode cX10_hasLimits 76 = .ok (.iload 5, 2) := by decide +kernel
theorem dX10_hasLimits_78 : decode cX10_hasLimits 78 = .ok (.aload_n 0, 1) := by decide +kernel
theorem dX10_hasLimits_79 : decode cX10_hasLimits 79 = .ok (.getfield 11, 3) := by decide +kernel
theorem dX10_hasLimits_82 : decode cX10_hasLimits 82 = .ok (.iconst 0, 1) := by decide +kernel
theorem dX10_hasLimits_83 : decode cX10_hasLimits 83 = .ok (.iaload, 1) := by decide +kernel
theorem dX10_hasLimits_84 : decode cX10_hasLimits 84 = .ok (.if_icmp .ge 38, 3) := by decide +kernel
theorem dX10_hasLimits_87 : decode cX10_hasLimits 87 = .ok (.aload_n 0, 1) := by decide +kernel
theorem dX10_hasLimits_88 : decode cX10_hasLimits 88 = .ok (.iconst 0, 1) := by decide +kernel
theorem dX10_hasLimits_89 : decode cX10_hasLimits 89 = .ok (.iload 5, 2) := by decide +kernel
theorem dX10_hasLimits_91 : decode cX10_hasLimits 91 = .ok (.invokevirtual 167, 3) := by decide +kernel
theorem dX10_hasLimits_94 : decode cX10_hasLimits 94 = .ok (.pop, 1) := by decide +kernel
theorem dX10_hasLimits_95 : decode cX10_hasLimits 95 = .ok (.aload_n 0, 1) := by decide +kernel
theorem dX10_hasLimits_96 : decode cX10_hasLimits 96 = .ok (.lload_n 1, 1) := by decide +kernel
theorem dX10_hasLimits_97 : decode cX10_hasLimits 97 = .ok (.lload_n 3, 1) := by decide +kernel
theorem dX10_hasLimits_98 : decode cX10_hasLimits 98 = .ok (.invokevirtual 164, 3) := by decide +kernel
theorem dX10_hasLimits_101 : decode cX10_hasLimits 101 = .ok (.ifCond .ne 5, 3) := by decide +kernel
theorem dX10_hasLimits_104 : decode cX10_hasLimits 104 = .ok (.iconst 0, 1) := by decide +kernel
theorem dX10_hasLimits_105 : decode cX10_hasLimits 105 = .ok (.ireturn, 1) := by decide +kernel
theorem dX10_hasLimits_106 : decode cX10_hasLimits 106 = .ok (.aload_n 0, 1) := by decide +kernel
theorem dX10_hasLimits_107 : decode cX10_hasLimits 107 = .ok (.getfield 147, 3) := by decide +kernel
theorem dX10_hasLimits_110 : decode cX10_hasLimits 110 = .ok (.lstore_n 1, 1) := by decide +kernel
theorem dX10_hasLimits_111 : decode cX10_hasLimits 111 = .ok (.aload_n 0, 1) := by decide +kernel
theorem dX10_hasLimits_112 : decode cX10_hasLimits 112 = .ok (.getfield 151, 3) := by decide +kernel
theorem dX10_hasLimits_115 : decode cX10_hasLimits 115 = .ok (.lstore_n 3, 1) := by decide +kernel
theorem dX10_hasLimits_116 : decode cX10_hasLimits 116 = .ok (.iinc 5 1, 3) := by decide +kernel
theorem dX10_hasLimits_119 : decode cX10_hasLimits 119 = .ok (.goto (-43), 3) := by decide +kernel
theorem dX10_hasLimits_122 : decode cX10_hasLimits 122 = .ok (.aload_n 0, 1) := by decide +kernel
theorem dX10_hasLimits_123 : decode cX10_hasLimits 123 = .ok (.aload_n 0, 1) := by decide +kernel
theorem dX10_hasLimits_124 : decode cX10_hasLimits 124 = .ok (.invokevirtual 229, 3) := by decide +kernel
theorem dX10_hasLimits_127 : decode cX10_hasLimits 127 = .ok (.putfield 235, 3) := by decide +kernel
theorem dX10_hasLimits_130 : decode cX10_hasLimits 130 = .ok (.aload_n 0, 1) := by decide +kernel
theorem dX10_hasLimits_131 : decode cX10_hasLimits 131 = .ok (.aload_n 0, 1) := by decide +kernel
theorem dX10_hasLimits_132 : decode cX10_hasLimits 132 = .ok (.invokevirtual 232, 3) := by decide +kernel
theorem dX10_hasLimits_135 : decode cX10_hasLimits 135 = .ok (.putfield 238, 3) := by decide +kernel
theorem dX10_hasLimits_138 : decode cX10_hasLimits 138 = .ok (.iconst 1, 1) := by decide +kernel
theorem dX10_hasLimits_139 : decode cX10_hasLimits 139 = .ok (.ireturn, 1) := by decide +kernel
theorem dX10_fitsWhole_0 : decode cX10_fitsWhole 0 = .ok (.iconst 0, 1) := by decide +kernel
theorem dX10_fitsWhole_1 : decode cX10_fitsWhole 1 = .ok (.istore_n 1, 1) := by decide +kernel
theorem dX10_fitsWhole_2 : decode cX10_fitsWhole 2 = .ok (.iconst 0, 1) := by decide +kernel
theorem dX10_fitsWhole_3 : decode cX10_fitsWhole 3 = .ok (.istore_n 2, 1) := by decide +kernel
theorem dX10_fitsWhole_4 : decode cX10_fitsWhole 4 = .ok (.iload_n 2, 1) := by decide +kernel
theorem dX10_fitsWhole_5 : decode cX10_fitsWhole 5 = .ok (.aload_n 0, 1) := by decide +kernel
theorem dX10_fitsWhole_6 : decode cX10_fitsWhole 6 = .ok (.getfield 11, 3) := by decide +kernel
theorem dX10_fitsWhole_9 : decode cX10_fitsWhole 9 = .ok (.iconst 0, 1) := by decide +kernel
theorem dX10_fitsWhole_10 : decode cX10_fitsWhole 10 = .ok (.iaload, 1) := by decide +kernel
theorem dX10_fitsWhole_11 : decode cX10_fitsWhole 11 = .ok (.if_icmp .ge 18, 3) := by decide +kernel
theorem dX10_fitsWhole_14 : decode cX10_fitsWhole 14 = .ok (.iload_n 1, 1) := by decide +kernel
theorem dX10_fitsWhole_15 : decode cX10_fitsWhole 15 = .ok (.aload_n 0, 1) := by decide +kernel
theorem dX10_fitsWhole_16 : decode cX10_fitsWhole 16 = .ok (.iconst 0, 1) := by decide +kernel
theorem dX10_fitsWhole_17 : decode cX10_fitsWhole 17 = .ok (.iload_n 2, 1) := by decide +kernel
theorem dX10_fitsWhole_18 : decode cX10_fitsWhole 18 = .ok (.invokevirtual 241, 3) := by decide +kernel
theorem dX10_fitsWhole_21 : decode cX10_fitsWhole 21 = .ok (.iadd, 1) := by decide +kernel
theorem dX10_fitsWhole_22 : decode cX10_fitsWhole 22 = .ok (.istore_n 1, 1) := by decide +kernel
theorem dX10_fitsWhole_23 : decode cX10_fitsWhole 23 = .ok (.iinc 2 1, 3) := by decide +kernel
theorem dX10_fitsWhole_26 : decode cX10_fitsWhole 26 = .ok (.goto (-22), 3) := by decide +kernel
theorem dX10_fitsWhole_29 : decode cX10_fitsWhole 29 = .ok (.iload_n 1, 1) := by decide +kernel
theorem dX10_fitsWhole_30 : decode cX10_fitsWhole 30 = .ok (.i2l, 1) := by decide +kernel
theorem dX10_fitsWhole_31 : decode cX10_fitsWhole 31 = .ok (.aload_n 0, 1) := by decide +kernel
theorem dX10_fitsWhole_32 : decode cX10_fitsWhole 32 = .ok (.getfield 235, 3) := by decide +kernel
theorem dX10_fitsWhole_35 : decode cX10_fitsWhole 35 = .ok (.i2l, 1) := by decide +kernel
theorem dX10_fitsWhole_36 : decode cX10_fitsWhole 36 = .ok (.aload_n 0, 1) := by decide +kernel
theorem dX10_fitsWhole_37 : decode cX10_fitsWhole 37 = .ok (.getfield 238, 3) := by decide +kernel
theorem dX10_fitsWhole_40 : decode cX10_fitsWhole 40 = .ok (.i2l, 1) := by decide +kernel
theorem dX10_fitsWhole_41 : decode cX10_fitsWhole 41 = .ok (.invokestatic 68, 3) := by decide +kernel
theorem dX10_fitsWhole_44 : decode cX10_fitsWhole 44 = .ok (.istore_n 2, 1) := by decide +kernel
theorem dX10_fitsWhole_45 : decode cX10_fitsWhole 45 = .ok (.iconst 0, 1) := by decide +kernel
theorem dX10_fitsWhole_46 : decode cX10_fitsWhole 46 = .ok (.istore_n 3, 1) := by decide +kernel
theorem dX10_fitsWhole_47 : decode cX10_fitsWhole 47 = .ok (.iload_n 3, 1) := by decide +kernel
theorem dX10_fitsWhole_48 : decode cX10_fitsWhole 48 = .ok (.iconst 2, 1) := by decide +kernel
theorem dX10_fitsWhole_49 : decode cX10_fitsWhole 49 = .ok (.if_icmp .ge 76, 3) := by decide +kernel
theorem dX10_fitsWhole_52 : decode cX10_fitsWhole 52 = .ok (.iconst 0, 1) := by decide +kernel
theorem dX10_fitsWhole_53 : decode cX10_fitsWhole 53 = .ok (.istore 4, 2) := by decide +kernel
theorem dX10_fitsWhole_55 : decode cX10_fitsWhole 55 = .ok (.iload 4, 2) := by decide +kernel
theorem dX10_fitsWhole_57 : decode cX10_fitsWhole 57 = .ok (.aload_n 0, 1) := by decide +kernel
theorem dX10_fitsWhole_58 : decode cX10_fitsWhole 58 = .ok (.iload_n 3, 1) := by decide +kernel
theorem dX10_fitsWhole_59 : decode cX10_fitsWhole 59 = .ok (.invokevirtual 78, 3) := by decide +kernel
theorem dX10_fitsWhole_62 : decode cX10_fitsWhole 62 = .ok (.if_icmp .ge 57, 3) := by decide +kernel
theorem dX10_fitsWhole_65 : decode cX10_fitsWhole 65 = .ok (.iload_n 2, 1) := by decide +kernel
theorem dX10_fitsWhole_66 : decode cX10_fitsWhole 66 = .ok (.ifCond .eq 45, 3) := by decide +kernel
theorem dX10_fitsWhole_69 : decode cX10_fitsWhole 69 = .ok (.aload_n 0, 1) := by decide +kernel
theorem dX10_fitsWhole_70 : decode cX10_fitsWhole 70 = .ok (.iload_n 3, 1) := by decide +kernel
theorem dX10_fitsWhole_71 : decode cX10_fitsWhole 71 = .ok (.iload 4, 2) := by decide +kernel
theorem dX10_fitsWhole_73 : decode cX10_fitsWhole 73 = .ok (.invokevirtual 241, 3) := by decide +kernel
theorem dX10_fitsWhole_76 : decode cX10_fitsWhole 76 = .ok (.i2l, 1) := by decide +kernel
theorem dX10_fitsWhole_77 : decode cX10_fitsWhole 77 = .ok (.aload_n 0, 1) := by decide +kernel
theorem dX10_fitsWhole_78 : decode cX10_fitsWhole 78 = .ok (.getfield 36, 3) := by decide +kernel
theorem dX10_fitsWhole_81 : decode cX10_fitsWhole 81 = .ok (.iconst 3, 1) := by decide +kernel
theorem dX10_fitsWhole_82 : decode cX10_fitsWhole 82 = .ok (.iload_n 3, 1) := by decide +kernel
theorem dX10_fitsWhole_83 : decode cX10_fitsWhole 83 = .ok (.imul, 1) := by decide +kernel
theorem dX10_fitsWhole_84 : decode cX10_fitsWhole 84 = .ok (.iload 4, 2) := by decide +kernel
theorem dX10_fitsWhole_86 : decode cX10_fitsWhole 86 = .ok (.iadd, 1) := by decide +kernel
theorem dX10_fitsWhole_87 : decode cX10_fitsWhole 87 = .ok (.iaload, 1) := by decide +kernel
theorem dX10_fitsWhole_88 : decode cX10_fitsWhole 88 = .ok (.i2l, 1) := by decide +kernel
theorem dX10_fitsWhole_89 : decode cX10_fitsWhole 89 = .ok (.aload_n 0, 1) := by decide +kernel
theorem dX10_fitsWhole_90 : decode cX10_fitsWhole 90 = .ok (.getfield 39, 3) := by decide +kernel
theorem dX10_fitsWhole_93 : decode cX10_fitsWhole 93 = .ok (.iconst 3, 1) := by decide +kernel
theorem dX10_fitsWhole_94 : decode cX10_fitsWhole 94 = .ok (.iload_n 3, 1) := by decide +kernel
theorem dX10_fitsWhole_95 : decode cX10_fitsWhole 95 = .ok (.imul, 1) := by decide +kernel
theorem dX10_fitsWhole_96 : decode cX10_fitsWhole 96 = .ok (.iload 4, 2) := by decide +kernel
theorem dX10_fitsWhole_98 : decode cX10_fitsWhole 98 = .ok (.iadd, 1) := by decide +kernel
theorem dX10_fitsWhole_99 : decode cX10_fitsWhole 99 = .ok (.iaload, 1) := by decide +kernel
theorem dX10_fitsWhole_100 : decode cX10_fitsWhole 100 = .ok (.i2l, 1) := by decide +kernel
theorem dX10_fitsWhole_101 : decode cX10_fitsWhole 101 = .ok (.invokestatic 68, 3) := by decide +kernel
theorem dX10_fitsWhole_104 : decode cX10_fitsWhole 104 = .ok (.ifCond .eq 7, 3) := by decide +kernel
theorem dX10_fitsWhole_107 : decode cX10_fitsWhole 107 = .ok (.iconst 1, 1) := by decide +kernel
theorem dX10_fitsWhole_108 : decode cX10_fitsWhole 108 = .ok (.goto 4, 3) := by decide +kernel
theorem dX10_fitsWhole_111 : decode cX10_fitsWhole 111 = .ok (.iconst 0, 1) := by decide +kernel
theorem dX10_fitsWhole_112 : decode cX10_fitsWhole 112 = .ok (.istore_n 2, 1) := by decide +kernel
theorem dX10_fitsWhole_113 : decode cX10_fitsWhole 113 = .ok (.iinc 4 1, 3) := by decide +kernel
theorem dX10_fitsWhole_116 : decode cX10_fitsWhole 116 = .ok (.goto (-61), 3) := by decide +kernel
theorem dX10_fitsWhole_119 : decode cX10_fitsWhole 119 = .ok (.iinc 3 1, 3) := by decide +kernel
theorem dX10_fitsWhole_122 : decode cX10_fitsWhole 122 = .ok (.goto (-75), 3) := by decide +kernel
theorem dX10_fitsWhole_125 : decode cX10_fitsWhole 125 = .ok (.iload_n 2, 1) := by decide +kernel
theorem dX10_fitsWhole_126 : decode cX10_fitsWhole 126 = .ok (.ireturn, 1) := by decide +kernel
theorem dX10_togetherOf_0 : decode cX10_togetherOf 0 = .ok (.iconst 0, 1) := by decide +kernel
theorem dX10_togetherOf_1 : decode cX10_togetherOf 1 = .ok (.istore_n 3, 1) := by decide +kernel
theorem dX10_togetherOf_2 : decode cX10_togetherOf 2 = .ok (.iconst 0, 1) := by decide +kernel
theorem dX10_togetherOf_3 : decode cX10_togetherOf 3 = .ok (.istore 4, 2) := by decide +kernel
theorem dX10_togetherOf_5 : decode cX10_togetherOf 5 = .ok (.iload 4, 2) := by decide +kernel
theorem dX10_togetherOf_7 : decode cX10_togetherOf 7 = .ok (.bipush 9, 2) := by decide +kernel
theorem dX10_togetherOf_9 : decode cX10_togetherOf 9 = .ok (.if_icmp .ge 34, 3) := by decide +kernel
theorem dX10_togetherOf_12 : decode cX10_togetherOf 12 = .ok (.iload_n 3, 1) := by decide +kernel
theorem dX10_togetherOf_13 : decode cX10_togetherOf 13 = .ok (.aload_n 0, 1) := by decide +kernel
theorem dX10_togetherOf_14 : decode cX10_togetherOf 14 = .ok (.iload 4, 2) := by decide +kernel
theorem dX10_togetherOf_16 : decode cX10_togetherOf 16 = .ok (.iload_n 1, 1) := by decide +kernel
theorem dX10_togetherOf_17 : decode cX10_togetherOf 17 = .ok (.iload_n 2, 1) := by decide +kernel
theorem dX10_togetherOf_18 : decode cX10_togetherOf 18 = .ok (.invokevirtual 160, 3) := by decide +kernel
theorem dX10_togetherOf_21 : decode cX10_togetherOf 21 = .ok (.ifCond .eq 13, 3) := by decide +kernel
theorem dX10_togetherOf_24 : decode cX10_togetherOf 24 = .ok (.aload_n 0, 1) := by decide +kernel
theorem dX10_togetherOf_25 : decode cX10_togetherOf 25 = .ok (.getfield 42, 3) := by decide +kernel
theorem dX10_togetherOf_28 : decode cX10_togetherOf 28 = .ok (.iload 4, 2) := by decide +kernel
theorem dX10_togetherOf_30 : decode cX10_togetherOf 30 = .ok (.iaload, 1) := by decide +kernel
theorem dX10_togetherOf_31 : decode cX10_togetherOf 31 = .ok (.goto 4, 3) := by decide +kernel
theorem dX10_togetherOf_34 : decode cX10_togetherOf 34 = .ok (.iconst 0, 1) := by decide +kernel
theorem dX10_togetherOf_35 : decode cX10_togetherOf 35 = .ok (.iadd, 1) := by decide +kernel
theorem dX10_togetherOf_36 : decode cX10_togetherOf 36 = .ok (.istore_n 3, 1) := by decide +kernel
theorem dX10_togetherOf_37 : decode cX10_togetherOf 37 = .ok (.iinc 4 1, 3) := by decide +kernel
theorem dX10_togetherOf_40 : decode cX10_togetherOf 40 = .ok (.goto (-35), 3) := by decide +kernel
theorem dX10_togetherOf_43 : decode cX10_togetherOf 43 = .ok (.iload_n 3, 1) := by decide +kernel
theorem dX10_togetherOf_44 : decode cX10_togetherOf 44 = .ok (.ireturn, 1) := by decide +kernel
theorem dX10_goesOn_0 : decode cX10_goesOn 0 = .ok (.iload_n 1, 1) := by decide +kernel
theorem dX10_goesOn_1 : decode cX10_goesOn 1 = .ok (.bipush 9, 2) := by decide +kernel
theorem dX10_goesOn_3 : decode cX10_goesOn 3 = .ok (.if_icmp .ne 8, 3) := by decide +kernel
theorem dX10_goesOn_6 : decode cX10_goesOn 6 = .ok (.aload_n 0, 1) := by decide +kernel
theorem dX10_goesOn_7 : decode cX10_goesOn 7 = .ok (.invokevirtual 244, 3) := by decide +kernel
theorem dX10_goesOn_10 : decode cX10_goesOn 10 = .ok (.ireturn, 1) := by decide +kernel
theorem dX10_goesOn_11 : decode cX10_goesOn 11 = .ok (.aload_n 0, 1) := by decide +kernel
theorem dX10_goesOn_12 : decode cX10_goesOn 12 = .ok (.getfield 11, 3) := by decide +kernel
theorem dX10_goesOn_15 : decode cX10_goesOn 15 = .ok (.bipush 34, 2) := by decide +kernel
theorem dX10_goesOn_17 : decode cX10_goesOn 17 = .ok (.iload_n 1, 1) := by decide +kernel
theorem dX10_goesOn_18 : decode cX10_goesOn 18 = .ok (.iadd, 1) := by decide +kernel
theorem dX10_goesOn_19 : decode cX10_goesOn 19 = .ok (.iaload, 1) := by decide +kernel
theorem dX10_goesOn_20 : decode cX10_goesOn 20 = .ok (.aload_n 0, 1) := by decide +kernel
theorem dX10_goesOn_21 : decode cX10_goesOn 21 = .ok (.getfield 11, 3) := by decide +kernel
theorem dX10_goesOn_24 : decode cX10_goesOn 24 = .ok (.bipush 43, 2) := by decide +kernel
theorem dX10_goesOn_26 : decode cX10_goesOn 26 = .ok (.iload_n 1, 1) := by decide +kernel
theorem dX10_goesOn_27 : decode cX10_goesOn 27 = .ok (.iadd, 1) := by decide +kernel
theorem dX10_goesOn_28 : decode cX10_goesOn 28 = .ok (.iaload, 1) := by decide +kernel
theorem dX10_goesOn_29 : decode cX10_goesOn 29 = .ok (.idiv, 1) := by decide +kernel
theorem dX10_goesOn_30 : decode cX10_goesOn 30 = .ok (.istore_n 2, 1) := by decide +kernel
theorem dX10_goesOn_31 : decode cX10_goesOn 31 = .ok (.aload_n 0, 1) := by decide +kernel
theorem dX10_goesOn_32 : decode cX10_goesOn 32 = .ok (.getfield 42, 3) := by decide +kernel
theorem dX10_goesOn_35 : decode cX10_goesOn 35 = .ok (.iload_n 1, 1) := by decide +kernel
theorem dX10_goesOn_36 : decode cX10_goesOn 36 = .ok (.iload_n 2, 1) := by decide +kernel
theorem dX10_goesOn_37 : decode cX10_goesOn 37 = .ok (.iastore, 1) := by decide +kernel
theorem dX10_goesOn_38 : decode cX10_goesOn 38 = .ok (.aload_n 0, 1) := by decide +kernel
theorem dX10_goesOn_39 : decode cX10_goesOn 39 = .ok (.iload_n 1, 1) := by decide +kernel
theorem dX10_goesOn_40 : decode cX10_goesOn 40 = .ok (.iconst 1, 1) := by decide +kernel
theorem dX10_goesOn_41 : decode cX10_goesOn 41 = .ok (.iadd, 1) := by decide +kernel
theorem dX10_goesOn_42 : decode cX10_goesOn 42 = .ok (.invokevirtual 247, 3) := by decide +kernel
theorem dX10_goesOn_45 : decode cX10_goesOn 45 = .ok (.ifCond .eq 5, 3) := by decide +kernel
theorem dX10_goesOn_48 : decode cX10_goesOn 48 = .ok (.iconst 1, 1) := by decide +kernel
theorem dX10_goesOn_49 : decode cX10_goesOn 49 = .ok (.ireturn, 1) := by decide +kernel
theorem dX10_goesOn_50 : decode cX10_goesOn 50 = .ok (.aload_n 0, 1) := by decide +kernel
theorem dX10_goesOn_51 : decode cX10_goesOn 51 = .ok (.iload_n 1, 1) := by decide +kernel
theorem dX10_goesOn_52 : decode cX10_goesOn 52 = .ok (.invokevirtual 82, 3) := by decide +kernel
theorem dX10_goesOn_55 : decode cX10_goesOn 55 = .ok (.ifCond .eq 16, 3) := by decide +kernel
theorem dX10_goesOn_58 : decode cX10_goesOn 58 = .ok (.aload_n 0, 1) := by decide +kernel
theorem dX10_goesOn_59 : decode cX10_goesOn 59 = .ok (.getfield 11, 3) := by decide +kernel
theorem dX10_goesOn_62 : decode cX10_goesOn 62 = .ok (.bipush 43, 2) := by decide +kernel
theorem dX10_goesOn_64 : decode cX10_goesOn 64 = .ok (.iload_n 1, 1) := by decide +kernel
theorem dX10_goesOn_65 : decode cX10_goesOn 65 = .ok (.iadd, 1) := by decide +kernel
theorem dX10_goesOn_66 : decode cX10_goesOn 66 = .ok (.iaload, 1) := by decide +kernel
theorem dX10_goesOn_67 : decode cX10_goesOn 67 = .ok (.iconst 1, 1) := by decide +kernel
theorem dX10_goesOn_68 : decode cX10_goesOn 68 = .ok (.if_icmp .ne 5, 3) := by decide +kernel
theorem dX10_goesOn_71 : decode cX10_goesOn 71 = .ok (.iconst 0, 1) := by decide +kernel
theorem dX10_goesOn_72 : decode cX10_goesOn 72 = .ok (.ireturn, 1) := by decide +kernel
theorem dX10_goesOn_73 : decode cX10_goesOn 73 = .ok (.aload_n 0, 1) := by decide +kernel
theorem dX10_goesOn_74 : decode cX10_goesOn 74 = .ok (.getfield 42, 3) := by decide +kernel
theorem dX10_goesOn_77 : decode cX10_goesOn 77 = .ok (.iload_n 1, 1) := by decide +kernel
theorem dX10_goesOn_78 : decode cX10_goesOn 78 = .ok (.iload_n 2, 1) := by decide +kernel
theorem dX10_goesOn_79 : decode cX10_goesOn 79 = .ok (.iconst 1, 1) := by decide +kernel
theorem dX10_goesOn_80 : decode cX10_goesOn 80 = .ok (.iadd, 1) := by decide +kernel
theorem dX10_goesOn_81 : decode cX10_goesOn 81 = .ok (.iastore, 1) := by decide +kernel
theorem dX10_goesOn_82 : decode cX10_goesOn 82 = .ok (.aload_n 0, 1) := by decide +kernel
theorem dX10_goesOn_83 : decode cX10_goesOn 83 = .ok (.iload_n 1, 1) := by decide +kernel
theorem dX10_goesOn_84 : decode cX10_goesOn 84 = .ok (.iconst 1, 1) := by decide +kernel
theorem dX10_goesOn_85 : decode cX10_goesOn 85 = .ok (.iadd, 1) := by decide +kernel
theorem dX10_goesOn_86 : decode cX10_goesOn 86 = .ok (.invokevirtual 247, 3) := by decide +kernel
theorem dX10_goesOn_89 : decode cX10_goesOn 89 = .ok (.ireturn, 1) := by decide +kernel
theorem dX10_isRounded_0 : decode cX10_isRounded 0 = .ok (.aload_n 0, 1) := by decide +kernel
theorem dX10_isRounded_1 : decode cX10_isRounded 1 = .ok (.invokevirtual 250, 3) := by decide +kernel
theorem dX10_isRounded_4 : decode cX10_isRounded 4 = .ok (.ifCond .eq 15, 3) := by decide +kernel
theorem dX10_isRounded_7 : decode cX10_isRounded 7 = .ok (.aload_n 0, 1) := by decide +kernel
theorem dX10_isRounded_8 : decode cX10_isRounded 8 = .ok (.iconst 0, 1) := by decide +kernel
theorem dX10_isRounded_9 : decode cX10_isRounded 9 = .ok (.invokevirtual 247, 3) := by decide +kernel
theorem dX10_isRounded_12 : decode cX10_isRounded 12 = .ok (.ifCond .eq 7, 3) := by decide +kernel
theorem dX10_isRounded_15 : decode cX10_isRounded 15 = .ok (.iconst 1, 1) := by decide +kernel
theorem dX10_isRounded_16 : decode cX10_isRounded 16 = .ok (.goto 4, 3) := by decide +kernel
theorem dX10_isRounded_19 : decode cX10_isRounded 19 = .ok (.iconst 0, 1) := by decide +kernel
theorem dX10_isRounded_20 : decode cX10_isRounded 20 = .ok (.ireturn, 1) := by decide +kernel
theorem dX10_rounded_0 : decode cX10_rounded 0 = .ok (.aload_n 0, 1) := by decide +kernel
theorem dX10_rounded_1 : decode cX10_rounded 1 = .ok (.iload_n 1, 1) := by decide +kernel
theorem dX10_rounded_2 : decode cX10_rounded 2 = .ok (.iload_n 2, 1) := by decide +kernel
theorem dX10_rounded_3 : decode cX10_rounded 3 = .ok (.invokevirtual 72, 3) := by decide +kernel
theorem dX10_rounded_6 : decode cX10_rounded 6 = .ok (.ifCond .ne 5, 3) := by decide +kernel
theorem dX10_rounded_9 : decode cX10_rounded 9 = .ok (.iconst (-1), 1) := by decide +kernel
theorem dX10_rounded_10 : decode cX10_rounded 10 = .ok (.ireturn, 1) := by decide +kernel
theorem dX10_rounded_11 : decode cX10_rounded 11 = .ok (.aload_n 0, 1) := by decide +kernel
theorem dX10_rounded_12 : decode cX10_rounded 12 = .ok (.invokevirtual 253, 3) := by decide +kernel
theorem dX10_rounded_15 : decode cX10_rounded 15 = .ok (.ifCond .eq 16, 3) := by decide +kernel
theorem dX10_rounded_18 : decode cX10_rounded 18 = .ok (.aload_n 0, 1) := by decide +kernel
theorem dX10_rounded_19 : decode cX10_rounded 19 = .ok (.getfield 42, 3) := by decide +kernel
theorem dX10_rounded_22 : decode cX10_rounded 22 = .ok (.iconst 3, 1) := by decide +kernel
theorem dX10_rounded_23 : decode cX10_rounded 23 = .ok (.iload_n 1, 1) := by decide +kernel
theorem dX10_rounded_24 : decode cX10_rounded 24 = .ok (.imul, 1) := by decide +kernel
theorem dX10_rounded_25 : decode cX10_rounded 25 = .ok (.iload_n 2, 1) := by decide +kernel
theorem dX10_rounded_26 : decode cX10_rounded 26 = .ok (.iadd, 1) := by decide +kernel
theorem dX10_rounded_27 : decode cX10_rounded 27 = .ok (.iaload, 1) := by decide +kernel
theorem dX10_rounded_28 : decode cX10_rounded 28 = .ok (.goto 5, 3) := by decide +kernel
theorem dX10_rounded_31 : decode cX10_rounded 31 = .ok (.bipush (-6), 2) := by decide +kernel
theorem dX10_rounded_33 : decode cX10_rounded 33 = .ok (.ireturn, 1) := by decide +kernel
theorem dX10_together_0 : decode cX10_together 0 = .ok (.aload_n 0, 1) := by decide +kernel
theorem dX10_together_1 : decode cX10_together 1 = .ok (.iload_n 1, 1) := by decide +kernel
theorem dX10_together_2 : decode cX10_together 2 = .ok (.iload_n 2, 1) := by decide +kernel
theorem dX10_together_3 : decode cX10_together 3 = .ok (.invokevirtual 97, 3) := by decide +kernel
theorem dX10_together_6 : decode cX10_together 6 = .ok (.ifCond .ne 5, 3) := by decide +kernel
theorem dX10_together_9 : decode cX10_together 9 = .ok (.iconst (-1), 1) := by decide +kernel
theorem dX10_together_10 : decode cX10_together 10 = .ok (.ireturn, 1) := by decide +kernel
theorem dX10_together_11 : decode cX10_together 11 = .ok (.aload_n 0, 1) := by decide +kernel
theorem dX10_together_12 : decode cX10_together 12 = .ok (.invokevirtual 253, 3) := by decide +kernel
theorem dX10_together_15 : decode cX10_together 15 = .ok (.ifCond .eq 12, 3) := by decide +kernel
theorem dX10_together_18 : decode cX10_together 18 = .ok (.aload_n 0, 1) := by decide +kernel
theorem dX10_together_19 : decode cX10_together 19 = .ok (.iload_n 1, 1) := by decide +kernel
theorem dX10_together_20 : decode cX10_together 20 = .ok (.iload_n 2, 1) := by decide +kernel
theorem dX10_together_21 : decode cX10_together 21 = .ok (.invokevirtual 241, 3) := by decide +kernel
theorem dX10_together_24 : decode cX10_together 24 = .ok (.goto 5, 3) := by decide +kernel
theorem dX10_together_27 : decode cX10_together 27 = .ok (.bipush (-6), 2) := by decide +kernel
theorem dX10_together_29 : decode cX10_together 29 = .ok (.ireturn, 1) := by decide +kernel
theorem dX10_product_0 : decode cX10_product 0 = .ok (.lconst 1, 1) := by decide +kernel
theorem dX10_product_1 : decode cX10_product 1 = .ok (.lstore_n 1, 1) := by decide +kernel
theorem dX10_product_2 : decode cX10_product 2 = .ok (.aload_n 0, 1) := by decide +kernel
theorem dX10_product_3 : decode cX10_product 3 = .ok (.astore_n 3, 1) := by decide +kernel
theorem dX10_product_4 : decode cX10_product 4 = .ok (.aload_n 3, 1) := by decide +kernel
theorem dX10_product_5 : decode cX10_product 5 = .ok (.arraylength, 1) := by decide +kernel
theorem dX10_product_6 : decode cX10_product 6 = .ok (.istore 4, 2) := by decide +kernel
theorem dX10_product_8 : decode cX10_product 8 = .ok (.iconst 0, 1) := by decide +kernel
theorem dX10_product_9 : decode cX10_product 9 = .ok (.istore 5, 2) := by decide +kernel
theorem dX10_product_11 : decode cX10_product 11 = .ok (.iload 5, 2) := by decide +kernel
theorem dX10_product_13 : decode cX10_product 13 = .ok (.iload 4, 2) := by decide +kernel
theorem dX10_product_15 : decode cX10_product 15 = .ok (.if_icmp .ge 35, 3) := by decide +kernel
theorem dX10_product_18 : decode cX10_product 18 = .ok (.aload_n 3, 1) := by decide +kernel
theorem dX10_product_19 : decode cX10_product 19 = .ok (.iload 5, 2) := by decide +kernel
theorem dX10_product_21 : decode cX10_product 21 = .ok (.laload, 1) := by decide +kernel
theorem dX10_product_22 : decode cX10_product 22 = .ok (.lstore 6, 2) := by decide +kernel
theorem dX10_product_24 : decode cX10_product 24 = .ok (.lload 6, 2) := by decide +kernel
theorem dX10_product_26 : decode cX10_product 26 = .ok (.ldc2_w 256, 3) := by decide +kernel
theorem dX10_product_29 : decode cX10_product 29 = .ok (.lload_n 1, 1) := by decide +kernel
theorem dX10_product_30 : decode cX10_product 30 = .ok (.ldiv, 1) := by decide +kernel
theorem dX10_product_31 : decode cX10_product 31 = .ok (.lcmp, 1) := by decide +kernel
theorem dX10_product_32 : decode cX10_product 32 = .ok (.ifCond .le 7, 3) := by decide +kernel
theorem dX10_product_35 : decode cX10_product 35 = .ok (.ldc2_w 190, 3) := by decide +kernel
theorem dX10_product_38 : decode cX10_product 38 = .ok (.lreturn, 1) := by decide +kernel
theorem dX10_product_39 : decode cX10_product 39 = .ok (.lload_n 1, 1) := by decide +kernel
theorem dX10_product_40 : decode cX10_product 40 = .ok (.lload 6, 2) := by decide +kernel
theorem dX10_product_42 : decode cX10_product 42 = .ok (.lmul, 1) := by decide +kernel
theorem dX10_product_43 : decode cX10_product 43 = .ok (.lstore_n 1, 1) := by decide +kernel
theorem dX10_product_44 : decode cX10_product 44 = .ok (.iinc 5 1, 3) := by decide +kernel
theorem dX10_product_47 : decode cX10_product 47 = .ok (.goto (-36), 3) := by decide +kernel
theorem dX10_product_50 : decode cX10_product 50 = .ok (.lload_n 1, 1) := by decide +kernel
theorem dX10_product_51 : decode cX10_product 51 = .ok (.lreturn, 1) := by decide +kernel
theorem dX10_ratio_0 : decode cX10_ratio 0 = .ok (.aload_n 0, 1) := by decide +kernel
theorem dX10_ratio_1 : decode cX10_ratio 1 = .ok (.getfield 45, 3) := by decide +kernel
theorem dX10_ratio_4 : decode cX10_ratio 4 = .ok (.iload_n 1, 1) := by decide +kernel
theorem dX10_ratio_5 : decode cX10_ratio 5 = .ok (.aload_n 0, 1) := by decide +kernel
theorem dX10_ratio_6 : decode cX10_ratio 6 = .ok (.getfield 11, 3) := by decide +kernel
theorem dX10_ratio_9 : decode cX10_ratio 9 = .ok (.iload_n 3, 1) := by decide +kernel
theorem dX10_ratio_10 : decode cX10_ratio 10 = .ok (.ifCond .eq 8, 3) := by decide +kernel
theorem dX10_ratio_13 : decode cX10_ratio 13 = .ok (.bipush 34, 2) := by decide +kernel
theorem dX10_ratio_15 : decode cX10_ratio 15 = .ok (.goto 5, 3) := by decide +kernel
theorem dX10_ratio_18 : decode cX10_ratio 18 = .ok (.bipush 43, 2) := by decide +kernel
theorem dX10_ratio_20 : decode cX10_ratio 20 = .ok (.iload_n 2, 1) := by decide +kernel
theorem dX10_ratio_21 : decode cX10_ratio 21 = .ok (.iadd, 1) := by decide +kernel
theorem dX10_ratio_22 : decode cX10_ratio 22 = .ok (.iaload, 1) := by decide +kernel
theorem dX10_ratio_23 : decode cX10_ratio 23 = .ok (.i2l, 1) := by decide +kernel
theorem dX10_ratio_24 : decode cX10_ratio 24 = .ok (.lastore, 1) := by decide +kernel
theorem dX10_ratio_25 : decode cX10_ratio 25 = .ok (.aload_n 0, 1) := by decide +kernel
theorem dX10_ratio_26 : decode cX10_ratio 26 = .ok (.getfield 49, 3) := by decide +kernel
theorem dX10_ratio_29 : decode cX10_ratio 29 = .ok (.iload_n 1, 1) := by decide +kernel
theorem dX10_ratio_30 : decode cX10_ratio 30 = .ok (.aload_n 0, 1) := by decide +kernel
theorem dX10_ratio_31 : decode cX10_ratio 31 = .ok (.getfield 11, 3) := by decide +kernel
theorem dX10_ratio_34 : decode cX10_ratio 34 = .ok (.iload_n 3, 1) := by decide +kernel
theorem dX10_ratio_35 : decode cX10_ratio 35 = .ok (.ifCond .eq 8, 3) := by decide +kernel
theorem dX10_ratio_38 : decode cX10_ratio 38 = .ok (.bipush 43, 2) := by decide +kernel
theorem dX10_ratio_40 : decode cX10_ratio 40 = .ok (.goto 5, 3) := by decide +kernel
theorem dX10_ratio_43 : decode cX10_ratio 43 = .ok (.bipush 34, 2) := by decide +kernel
theorem dX10_ratio_45 : decode cX10_ratio 45 = .ok (.iload_n 2, 1) := by decide +kernel
theorem dX10_ratio_46 : decode cX10_ratio 46 = .ok (.iadd, 1) := by decide +kernel
theorem dX10_ratio_47 : decode cX10_ratio 47 = .ok (.iaload, 1) := by decide +kernel
theorem dX10_ratio_48 : decode cX10_ratio 48 = .ok (.i2l, 1) := by decide +kernel
theorem dX10_ratio_49 : decode cX10_ratio 49 = .ok (.lastore, 1) := by decide +kernel
theorem dX10_ratio_50 : decode cX10_ratio 50 = .ok (.return_, 1) := by decide +kernel
theorem dX10_cross_0 : decode cX10_cross 0 = .ok (.aload_n 0, 1) := by decide +kernel
theorem dX10_cross_1 : decode cX10_cross 1 = .ok (.iload_n 1, 1) := by decide +kernel
theorem dX10_cross_2 : decode cX10_cross 2 = .ok (.iload_n 3, 1) := by decide +kernel
theorem dX10_cross_3 : decode cX10_cross 3 = .ok (.invokevirtual 72, 3) := by decide +kernel
theorem dX10_cross_6 : decode cX10_cross 6 = .ok (.ifCond .eq 54, 3) := by decide +kernel
theorem dX10_cross_9 : decode cX10_cross 9 = .ok (.aload_n 0, 1) := by decide +kernel
theorem dX10_cross_10 : decode cX10_cross 10 = .ok (.iload_n 2, 1) := by decide +kernel
theorem dX10_cross_11 : decode cX10_cross 11 = .ok (.iload 4, 2) := by decide +kernel
theorem dX10_cross_13 : decode cX10_cross 13 = .ok (.invokevirtual 72, 3) := by decide +kernel
theorem dX10_cross_16 : decode cX10_cross 16 = .ok (.ifCond .eq 44, 3) := by decide +kernel
theorem dX10_cross_19 : decode cX10_cross 19 = .ok (.iload 5, 2) := by decide +kernel
theorem dX10_cross_21 : decode cX10_cross 21 = .ok (.invokestatic 187, 3) := by decide +kernel
theorem dX10_cross_24 : decode cX10_cross 24 = .ok (.ifCond .eq 36, 3) := by decide +kernel
theorem dX10_cross_27 : decode cX10_cross 27 = .ok (.aload_n 0, 1) := by decide +kernel
theorem dX10_cross_28 : decode cX10_cross 28 = .ok (.getfield 11, 3) := by decide +kernel
theorem dX10_cross_31 : decode cX10_cross 31 = .ok (.bipush 34, 2) := by decide +kernel
theorem dX10_cross_33 : decode cX10_cross 33 = .ok (.iconst 3, 1) := by decide +kernel
theorem dX10_cross_34 : decode cX10_cross 34 = .ok (.iload_n 1, 1) := by decide +kernel
theorem dX10_cross_35 : decode cX10_cross 35 = .ok (.imul, 1) := by decide +kernel
theorem dX10_cross_36 : decode cX10_cross 36 = .ok (.iadd, 1) := by decide +kernel
theorem dX10_cross_37 : decode cX10_cross 37 = .ok (.iload 4, 2) := by decide +kernel
theorem dX10_cross_39 : decode cX10_cross 39 = .ok (.iadd, 1) := by decide +kernel
theorem dX10_cross_40 : decode cX10_cross 40 = .ok (.iaload, 1) := by decide +kernel
theorem dX10_cross_41 : decode cX10_cross 41 = .ok (.ifCond .eq 19, 3) := by decide +kernel
theorem dX10_cross_44 : decode cX10_cross 44 = .ok (.aload_n 0, 1) := by decide +kernel
theorem dX10_cross_45 : decode cX10_cross 45 = .ok (.getfield 11, 3) := by decide +kernel
theorem dX10_cross_48 : decode cX10_cross 48 = .ok (.bipush 34, 2) := by decide +kernel
theorem dX10_cross_50 : decode cX10_cross 50 = .ok (.iconst 3, 1) := by decide +kernel
theorem dX10_cross_51 : decode cX10_cross 51 = .ok (.iload_n 2, 1) := by decide +kernel
theorem dX10_cross_52 : decode cX10_cross 52 = .ok (.imul, 1) := by decide +kernel
theorem dX10_cross_53 : decode cX10_cross 53 = .ok (.iadd, 1) := by decide +kernel
theorem dX10_cross_54 : decode cX10_cross 54 = .ok (.iload_n 3, 1) := by decide +kernel
theorem dX10_cross_55 : decode cX10_cross 55 = .ok (.iadd, 1) := by decide +kernel
theorem dX10_cross_56 : decode cX10_cross 56 = .ok (.iaload, 1) := by decide +kernel
theorem dX10_cross_57 : decode cX10_cross 57 = .ok (.ifCond .ne 7, 3) := by decide +kernel
theorem dX10_cross_60 : decode cX10_cross 60 = .ok (.ldc2_w 190, 3) := by decide +kernel
theorem dX10_cross_63 : decode cX10_cross 63 = .ok (.lreturn, 1) := by decide +kernel
theorem dX10_cross_64 : decode cX10_cross 64 = .ok (.aload_n 0, 1) := by decide +kernel
theorem dX10_cross_65 : decode cX10_cross 65 = .ok (.iconst 0, 1) := by decide +kernel
theorem dX10_cross_66 : decode cX10_cross 66 = .ok (.iconst 3, 1) := by decide +kernel
theorem dX10_cross_67 : decode cX10_cross 67 = .ok (.iload_n 1, 1) := by decide +kernel
theorem dX10_cross_68 : decode cX10_cross 68 = .ok (.imul, 1) := by decide +kernel
theorem dX10_cross_69 : decode cX10_cross 69 = .ok (.iload_n 3, 1) := by decide +kernel
theorem dX10_cross_70 : decode cX10_cross 70 = .ok (.iadd, 1) := by decide +kernel
theorem dX10_cross_71 : decode cX10_cross 71 = .ok (.iconst 1, 1) := by decide +kernel
theorem dX10_cross_72 : decode cX10_cross 72 = .ok (.invokevirtual 258, 3) := by decide +kernel
theorem dX10_cross_75 : decode cX10_cross 75 = .ok (.aload_n 0, 1) := by decide +kernel
theorem dX10_cross_76 : decode cX10_cross 76 = .ok (.iconst 1, 1) := by decide +kernel
theorem dX10_cross_77 : decode cX10_cross 77 = .ok (.iconst 3, 1) := by decide +kernel
theorem dX10_cross_78 : decode cX10_cross 78 = .ok (.iload_n 1, 1) := by decide +kernel
theorem dX10_cross_79 : decode cX10_cross 79 = .ok (.imul, 1) := by decide +kernel
theorem dX10_cross_80 : decode cX10_cross 80 = .ok (.iload 4, 2) := by decide +kernel
theorem dX10_cross_82 : decode cX10_cross 82 = .ok (.iadd, 1) := by decide +kernel
theorem dX10_cross_83 : decode cX10_cross 83 = .ok (.iconst 0, 1) := by decide +kernel
theorem dX10_cross_84 : decode cX10_cross 84 = .ok (.invokevirtual 258, 3) := by decide +kernel
theorem dX10_cross_87 : decode cX10_cross 87 = .ok (.aload_n 0, 1) := by decide +kernel
theorem dX10_cross_88 : decode cX10_cross 88 = .ok (.iconst 2, 1) := by decide +kernel
theorem dX10_cross_89 : decode cX10_cross 89 = .ok (.iconst 3, 1) := by decide +kernel
theorem dX10_cross_90 : decode cX10_cross 90 = .ok (.iload_n 2, 1) := by decide +kernel
theorem dX10_cross_91 : decode cX10_cross 91 = .ok (.imul, 1) := by decide +kernel
theorem dX10_cross_92 : decode cX10_cross 92 = .ok (.iload 4, 2) := by decide +kernel
theorem dX10_cross_94 : decode cX10_cross 94 = .ok (.iadd, 1) := by decide +kernel
theorem dX10_cross_95 : decode cX10_cross 95 = .ok (.iconst 1, 1) := by decide +kernel
theorem dX10_cross_96 : decode cX10_cross 96 = .ok (.invokevirtual 258, 3) := by decide +kernel
theorem dX10_cross_99 : decode cX10_cross 99 = .ok (.aload_n 0, 1) := by decide +kernel
theorem dX10_cross_100 : decode cX10_cross 100 = .ok (.iconst 3, 1) := by decide +kernel
theorem dX10_cross_101 : decode cX10_cross 101 = .ok (.iconst 3, 1) := by decide +kernel
theorem dX10_cross_102 : decode cX10_cross 102 = .ok (.iload_n 2, 1) := by decide +kernel
theorem dX10_cross_103 : decode cX10_cross 103 = .ok (.imul, 1) := by decide +kernel
theorem dX10_cross_104 : decode cX10_cross 104 = .ok (.iload_n 3, 1) := by decide +kernel
theorem dX10_cross_105 : decode cX10_cross 105 = .ok (.iadd, 1) := by decide +kernel
theorem dX10_cross_106 : decode cX10_cross 106 = .ok (.iconst 0, 1) := by decide +kernel
theorem dX10_cross_107 : decode cX10_cross 107 = .ok (.invokevirtual 258, 3) := by decide +kernel
theorem dX10_cross_110 : decode cX10_cross 110 = .ok (.aload_n 0, 1) := by decide +kernel
theorem dX10_cross_111 : decode cX10_cross 111 = .ok (.getfield 45, 3) := by decide +kernel
theorem dX10_cross_114 : decode cX10_cross 114 = .ok (.iconst 0, 1) := by decide +kernel
theorem dX10_cross_115 : decode cX10_cross 115 = .ok (.laload, 1) := by decide +kernel
theorem dX10_cross_116 : decode cX10_cross 116 = .ok (.lconst 0, 1) := by decide +kernel
theorem dX10_cross_117 : decode cX10_cross 117 = .ok (.lcmp, 1) := by decide +kernel
theorem dX10_cross_118 : decode cX10_cross 118 = .ok (.ifCond .eq 14, 3) := by decide +kernel
theorem dX10_cross_121 : decode cX10_cross 121 = .ok (.aload_n 0, 1) := by decide +kernel
theorem dX10_cross_122 : decode cX10_cross 122 = .ok (.getfield 45, 3) := by decide +kernel
theorem dX10_cross_125 : decode cX10_cross 125 = .ok (.iconst 2, 1) := by decide +kernel
theorem dX10_cross_126 : decode cX10_cross 126 = .ok (.laload, 1) := by decide +kernel
theorem dX10_cross_127 : decode cX10_cross 127 = .ok (.lconst 0, 1) := by decide +kernel
theorem dX10_cross_128 : decode cX10_cross 128 = .ok (.lcmp, 1) := by decide +kernel
theorem dX10_cross_129 : decode cX10_cross 129 = .ok (.ifCond .ne 7, 3) := by decide +kernel
theorem dX10_cross_132 : decode cX10_cross 132 = .ok (.iload 5, 2) := by decide +kernel
theorem dX10_cross_134 : decode cX10_cross 134 = .ok (.i2l, 1) := by decide +kernel
theorem dX10_cross_135 : decode cX10_cross 135 = .ok (.lreturn, 1) := by decide +kernel
theorem dX10_cross_136 : decode cX10_cross 136 = .ok (.iconst 0, 1) := by decide +kernel
theorem dX10_cross_137 : decode cX10_cross 137 = .ok (.istore 6, 2) := by decide +kernel
theorem dX10_cross_139 : decode cX10_cross 139 = .ok (.iload 6, 2) := by decide +kernel
theorem dX10_cross_141 : decode cX10_cross 141 = .ok (.iconst 4, 1) := by decide +kernel
theorem dX10_cross_142 : decode cX10_cross 142 = .ok (.if_icmp .ge 67, 3) := by decide +kernel
theorem dX10_cross_145 : decode cX10_cross 145 = .ok (.iconst 0, 1) := by decide +kernel
theorem dX10_cross_146 : decode cX10_cross 146 = .ok (.istore 7, 2) := by decide +kernel
theorem dX10_cross_148 : decode cX10_cross 148 = .ok (.iload 7, 2) := by decide +kernel
theorem dX10_cross_150 : decode cX10_cross 150 = .ok (.iconst 4, 1) := by decide +kernel
theorem dX10_cross_151 : decode cX10_cross 151 = .ok (.if_icmp .ge 52, 3) := by decide +kernel
theorem dX10_cross_154 : decode cX10_cross 154 = .ok (.aload_n 0, 1) := by decide +kernel
theorem dX10_cross_155 : decode cX10_cross 155 = .ok (.getfield 45, 3) := by decide +kernel
theorem dX10_cross_158 : decode cX10_cross 158 = .ok (.iload 6, 2) := by decide +kernel
theorem dX10_cross_160 : decode cX10_cross 160 = .ok (.laload, 1) := by decide +kernel
theorem dX10_cross_161 : decode cX10_cross 161 = .ok (.aload_n 0, 1) := by decide +kernel
theorem dX10_cross_162 : decode cX10_cross 162 = .ok (.getfield 49, 3) := by decide +kernel
theorem dX10_cross_165 : decode cX10_cross 165 = .ok (.iload 7, 2) := by decide +kernel
theorem dX10_cross_167 : decode cX10_cross 167 = .ok (.laload, 1) := by decide +kernel
theorem dX10_cross_168 : decode cX10_cross 168 = .ok (.invokestatic 143, 3) := by decide +kernel
theorem dX10_cross_171 : decode cX10_cross 171 = .ok (.lstore 8, 2) := by decide +kernel
theorem dX10_cross_173 : decode cX10_cross 173 = .ok (.aload_n 0, 1) := by decide +kernel
theorem dX10_cross_174 : decode cX10_cross 174 = .ok (.getfield 45, 3) := by decide +kernel
theorem dX10_cross_177 : decode cX10_cross 177 = .ok (.iload 6, 2) := by decide +kernel
theorem dX10_cross_179 : decode cX10_cross 179 = .ok (.dup2, 1) := by decide +kernel
theorem dX10_cross_180 : decode cX10_cross 180 = .ok (.laload, 1) := by decide +kernel
theorem dX10_cross_181 : decode cX10_cross 181 = .ok (.lload 8, 2) := by decide +kernel
theorem dX10_cross_183 : decode cX10_cross 183 = .ok (.ldiv, 1) := by decide +kernel
theorem dX10_cross_184 : decode cX10_cross 184 = .ok (.lastore, 1) := by decide +kernel
theorem dX10_cross_185 : decode cX10_cross 185 = .ok (.aload_n 0, 1) := by decide +kernel
theorem dX10_cross_186 : decode cX10_cross 186 = .ok (.getfield 49, 3) := by decide +kernel
theorem dX10_cross_189 : decode cX10_cross 189 = .ok (.iload 7, 2) := by decide +kernel
theorem dX10_cross_191 : decode cX10_cross 191 = .ok (.dup2, 1) := by decide +kernel
theorem dX10_cross_192 : decode cX10_cross 192 = .ok (.laload, 1) := by decide +kernel
theorem dX10_cross_193 : decode cX10_cross 193 = .ok (.lload 8, 2) := by decide +kernel
theorem dX10_cross_195 : decode cX10_cross 195 = .ok (.ldiv, 1) := by decide +kernel
theorem dX10_cross_196 : decode cX10_cross 196 = .ok (.lastore, 1) := by decide +kernel
theorem dX10_cross_197 : decode cX10_cross 197 = .ok (.iinc 7 1, 3) := by decide +kernel
theorem dX10_cross_200 : decode cX10_cross 200 = .ok (.goto (-52), 3) := by decide +kernel
theorem dX10_cross_203 : decode cX10_cross 203 = .ok (.iinc 6 1, 3) := by decide +kernel
theorem dX10_cross_206 : decode cX10_cross 206 = .ok (.goto (-67), 3) := by decide +kernel
theorem dX10_cross_209 : decode cX10_cross 209 = .ok (.aload_n 0, 1) := by decide +kernel
theorem dX10_cross_210 : decode cX10_cross 210 = .ok (.getfield 45, 3) := by decide +kernel
theorem dX10_cross_213 : decode cX10_cross 213 = .ok (.invokestatic 262, 3) := by decide +kernel
theorem dX10_cross_216 : decode cX10_cross 216 = .ok (.lstore 6, 2) := by decide +kernel
theorem dX10_cross_218 : decode cX10_cross 218 = .ok (.aload_n 0, 1) := by decide +kernel
theorem dX10_cross_219 : decode cX10_cross 219 = .ok (.getfield 49, 3) := by decide +kernel
theorem dX10_cross_222 : decode cX10_cross 222 = .ok (.invokestatic 262, 3) := by decide +kernel
theorem dX10_cross_225 : decode cX10_cross 225 = .ok (.lstore 8, 2) := by decide +kernel
theorem dX10_cross_227 : decode cX10_cross 227 = .ok (.lload 6, 2) := by decide +kernel
theorem dX10_cross_229 : decode cX10_cross 229 = .ok (.ldc2_w 190, 3) := by decide +kernel
theorem dX10_cross_232 : decode cX10_cross 232 = .ok (.lcmp, 1) := by decide +kernel
theorem dX10_cross_233 : decode cX10_cross 233 = .ok (.ifCond .eq 12, 3) := by decide +kernel
theorem dX10_cross_236 : decode cX10_cross 236 = .ok (.lload 8, 2) := by decide +kernel
theorem dX10_cross_238 : decode cX10_cross 238 = .ok (.ldc2_w 190, 3) := by decide +kernel
theorem dX10_cross_241 : decode cX10_cross 241 = .ok (.lcmp, 1) := by decide +kernel
theorem dX10_cross_242 : decode cX10_cross 242 = .ok (.ifCond .ne 9, 3) := by decide +kernel
theorem dX10_cross_245 : decode cX10_cross 245 = .ok (.ldc2_w 190, 3) := by decide +kernel
theorem dX10_cross_248 : decode cX10_cross 248 = .ok (.goto 15, 3) := by decide +kernel
theorem dX10_cross_251 : decode cX10_cross 251 = .ok (.iload 5, 2) := by decide +kernel
theorem dX10_cross_253 : decode cX10_cross 253 = .ok (.ifCond .ne 8, 3) := by decide +kernel
theorem dX10_cross_256 : decode cX10_cross 256 = .ok (.lload 6, 2) := by decide +kernel
theorem dX10_cross_258 : decode cX10_cross 258 = .ok (.goto 5, 3) := by decide +kernel
theorem dX10_cross_261 : decode cX10_cross 261 = .ok (.lload 8, 2) := by decide +kernel
theorem dX10_cross_263 : decode cX10_cross 263 = .ok (.lreturn, 1) := by decide +kernel
theorem dX10_orders_0 : decode cX10_orders 0 = .ok (.lconst 1, 1) := by decide +kernel
theorem dX10_orders_1 : decode cX10_orders 1 = .ok (.lstore_n 1, 1) := by decide +kernel
theorem dX10_orders_2 : decode cX10_orders 2 = .ok (.iconst 0, 1) := by decide +kernel
theorem dX10_orders_3 : decode cX10_orders 3 = .ok (.istore_n 3, 1) := by decide +kernel
theorem dX10_orders_4 : decode cX10_orders 4 = .ok (.iconst 0, 1) := by decide +kernel
theorem dX10_orders_5 : decode cX10_orders 5 = .ok (.istore 4, 2) := by decide +kernel
theorem dX10_orders_7 : decode cX10_orders 7 = .ok (.iload 4, 2) := by decide +kernel
theorem dX10_orders_9 : decode cX10_orders 9 = .ok (.bipush 9, 2) := by decide +kernel
theorem dX10_orders_11 : decode cX10_orders 11 = .ok (.if_icmp .ge 91, 3) := by decide +kernel
theorem dX10_orders_14 : decode cX10_orders 14 = .ok (.iconst 1, 1) := by decide +kernel
theorem dX10_orders_15 : decode cX10_orders 15 = .ok (.istore 5, 2) := by decide +kernel
theorem dX10_orders_17 : decode cX10_orders 17 = .ok (.aload_n 0, 1) := by decide +kernel
theorem dX10_orders_18 : decode cX10_orders 18 = .ok (.iload 4, 2) := by decide +kernel
theorem dX10_orders_20 : decode cX10_orders 20 = .ok (.invokevirtual 82, 3) := by decide +kernel
theorem dX10_orders_23 : decode cX10_orders 23 = .ok (.ifCond .eq 73, 3) := by decide +kernel
theorem dX10_orders_26 : decode cX10_orders 26 = .ok (.iload 5, 2) := by decide +kernel
theorem dX10_orders_28 : decode cX10_orders 28 = .ok (.aload_n 0, 1) := by decide +kernel
theorem dX10_orders_29 : decode cX10_orders 29 = .ok (.getfield 11, 3) := by decide +kernel
theorem dX10_orders_32 : decode cX10_orders 32 = .ok (.bipush 7, 2) := by decide +kernel
theorem dX10_orders_34 : decode cX10_orders 34 = .ok (.iload 4, 2) := by decide +kernel
theorem dX10_orders_36 : decode cX10_orders 36 = .ok (.iadd, 1) := by decide +kernel
theorem dX10_orders_37 : decode cX10_orders 37 = .ok (.iaload, 1) := by decide +kernel
theorem dX10_orders_38 : decode cX10_orders 38 = .ok (.if_icmp .gt 58, 3) := by decide +kernel
theorem dX10_orders_41 : decode cX10_orders 41 = .ok (.iinc 3 1, 3) := by decide +kernel
theorem dX10_orders_44 : decode cX10_orders 44 = .ok (.lload_n 1, 1) := by decide +kernel
theorem dX10_orders_45 : decode cX10_orders 45 = .ok (.iload 5, 2) := by decide +kernel
theorem dX10_orders_47 : decode cX10_orders 47 = .ok (.i2l, 1) := by decide +kernel
theorem dX10_orders_48 : decode cX10_orders 48 = .ok (.invokestatic 143, 3) := by decide +kernel
theorem dX10_orders_51 : decode cX10_orders 51 = .ok (.lstore 6, 2) := by decide +kernel
theorem dX10_orders_53 : decode cX10_orders 53 = .ok (.iload_n 3, 1) := by decide +kernel
theorem dX10_orders_54 : decode cX10_orders 54 = .ok (.i2l, 1) := by decide +kernel
theorem dX10_orders_55 : decode cX10_orders 55 = .ok (.iload 5, 2) := by decide +kernel
theorem dX10_orders_57 : decode cX10_orders 57 = .ok (.i2l, 1) := by decide +kernel
theorem dX10_orders_58 : decode cX10_orders 58 = .ok (.lload 6, 2) := by decide +kernel
theorem dX10_orders_60 : decode cX10_orders 60 = .ok (.ldiv, 1) := by decide +kernel
theorem dX10_orders_61 : decode cX10_orders 61 = .ok (.ldiv, 1) := by decide +kernel
theorem dX10_orders_62 : decode cX10_orders 62 = .ok (.lstore 8, 2) := by decide +kernel
theorem dX10_orders_64 : decode cX10_orders 64 = .ok (.lload_n 1, 1) := by decide +kernel
theorem dX10_orders_65 : decode cX10_orders 65 = .ok (.lload 6, 2) := by decide +kernel
theorem dX10_orders_67 : decode cX10_orders 67 = .ok (.ldiv, 1) := by decide +kernel
theorem dX10_orders_68 : decode cX10_orders 68 = .ok (.ldc2_w 256, 3) := by decide +kernel
theorem dX10_orders_71 : decode cX10_orders 71 = .ok (.lload 8, 2) := by decide +kernel
theorem dX10_orders_73 : decode cX10_orders 73 = .ok (.ldiv, 1) := by decide +kernel
theorem dX10_orders_74 : decode cX10_orders 74 = .ok (.lcmp, 1) := by decide +kernel
theorem dX10_orders_75 : decode cX10_orders 75 = .ok (.ifCond .le 7, 3) := by decide +kernel
theorem dX10_orders_78 : decode cX10_orders 78 = .ok (.ldc2_w 190, 3) := by decide +kernel
theorem dX10_orders_81 : decode cX10_orders 81 = .ok (.lreturn, 1) := by decide +kernel
theorem dX10_orders_82 : decode cX10_orders 82 = .ok (.lload_n 1, 1) := by decide +kernel
theorem dX10_orders_83 : decode cX10_orders 83 = .ok (.lload 6, 2) := by decide +kernel
theorem dX10_orders_85 : decode cX10_orders 85 = .ok (.ldiv, 1) := by decide +kernel
theorem dX10_orders_86 : decode cX10_orders 86 = .ok (.lload 8, 2) := by decide +kernel
theorem dX10_orders_88 : decode cX10_orders 88 = .ok (.lmul, 1) := by decide +kernel
theorem dX10_orders_89 : decode cX10_orders 89 = .ok (.lstore_n 1, 1) := by decide +kernel
theorem dX10_orders_90 : decode cX10_orders 90 = .ok (.iinc 5 1, 3) := by decide +kernel
theorem dX10_orders_93 : decode cX10_orders 93 = .ok (.goto (-76), 3) := by decide +kernel
theorem dX10_orders_96 : decode cX10_orders 96 = .ok (.iinc 4 1, 3) := by decide +kernel
theorem dX10_orders_99 : decode cX10_orders 99 = .ok (.goto (-92), 3) := by decide +kernel
theorem dX10_orders_102 : decode cX10_orders 102 = .ok (.lload_n 1, 1) := by decide +kernel
theorem dX10_orders_103 : decode cX10_orders 103 = .ok (.lreturn, 1) := by decide +kernel
theorem dX10_isAhead_0 : decode cX10_isAhead 0 = .ok (.aload_n 0, 1) := by decide +kernel
theorem dX10_isAhead_1 : decode cX10_isAhead 1 = .ok (.getfield 11, 3) := by decide +kernel
theorem dX10_isAhead_4 : decode cX10_isAhead 4 = .ok (.bipush 34, 2) := by decide +kernel
theorem dX10_isAhead_6 : decode cX10_isAhead 6 = .ok (.iload_n 1, 1) := by decide +kernel
theorem dX10_isAhead_7 : decode cX10_isAhead 7 = .ok (.iadd, 1) := by decide +kernel
theorem dX10_isAhead_8 : decode cX10_isAhead 8 = .ok (.iaload, 1) := by decide +kernel
theorem dX10_isAhead_9 : decode cX10_isAhead 9 = .ok (.i2l, 1) := by decide +kernel
theorem dX10_isAhead_10 : decode cX10_isAhead 10 = .ok (.aload_n 0, 1) := by decide +kernel
theorem dX10_isAhead_11 : decode cX10_isAhead 11 = .ok (.getfield 11, 3) := by decide +kernel
theorem dX10_isAhead_14 : decode cX10_isAhead 14 = .ok (.bipush 43, 2) := by decide +kernel
theorem dX10_isAhead_16 : decode cX10_isAhead 16 = .ok (.iload_n 2, 1) := by decide +kernel
theorem dX10_isAhead_17 : decode cX10_isAhead 17 = .ok (.iadd, 1) := by decide +kernel
theorem dX10_isAhead_18 : decode cX10_isAhead 18 = .ok (.iaload, 1) := by decide +kernel
theorem dX10_isAhead_19 : decode cX10_isAhead 19 = .ok (.i2l, 1) := by decide +kernel
theorem dX10_isAhead_20 : decode cX10_isAhead 20 = .ok (.lmul, 1) := by decide +kernel
theorem dX10_isAhead_21 : decode cX10_isAhead 21 = .ok (.lstore_n 3, 1) := by decide +kernel
theorem dX10_isAhead_22 : decode cX10_isAhead 22 = .ok (.aload_n 0, 1) := by decide +kernel
theorem dX10_isAhead_23 : decode cX10_isAhead 23 = .ok (.getfield 11, 3) := by decide +kernel
theorem dX10_isAhead_26 : decode cX10_isAhead 26 = .ok (.bipush 34, 2) := by decide +kernel
theorem dX10_isAhead_28 : decode cX10_isAhead 28 = .ok (.iload_n 2, 1) := by decide +kernel
theorem dX10_isAhead_29 : decode cX10_isAhead 29 = .ok (.iadd, 1) := by decide +kernel
theorem dX10_isAhead_30 : decode cX10_isAhead 30 = .ok (.iaload, 1) := by decide +kernel
theorem dX10_isAhead_31 : decode cX10_isAhead 31 = .ok (.i2l, 1) := by decide +kernel
theorem dX10_isAhead_32 : decode cX10_isAhead 32 = .ok (.aload_n 0, 1) := by decide +kernel
theorem dX10_isAhead_33 : decode cX10_isAhead 33 = .ok (.getfield 11, 3) := by decide +kernel
theorem dX10_isAhead_36 : decode cX10_isAhead 36 = .ok (.bipush 43, 2) := by decide +kernel
theorem dX10_isAhead_38 : decode cX10_isAhead 38 = .ok (.iload_n 1, 1) := by decide +kernel
theorem dX10_isAhead_39 : decode cX10_isAhead 39 = .ok (.iadd, 1) := by decide +kernel
theorem dX10_isAhead_40 : decode cX10_isAhead 40 = .ok (.iaload, 1) := by decide +kernel
theorem dX10_isAhead_41 : decode cX10_isAhead 41 = .ok (.i2l, 1) := by decide +kernel
theorem dX10_isAhead_42 : decode cX10_isAhead 42 = .ok (.lmul, 1) := by decide +kernel
theorem dX10_isAhead_43 : decode cX10_isAhead 43 = .ok (.lstore 5, 2) := by decide +kernel
theorem dX10_isAhead_45 : decode cX10_isAhead 45 = .ok (.lload_n 3, 1) := by decide +kernel
theorem dX10_isAhead_46 : decode cX10_isAhead 46 = .ok (.lload 5, 2) := by decide +kernel
theorem dX10_isAhead_48 : decode cX10_isAhead 48 = .ok (.lcmp, 1) := by decide +kernel
theorem dX10_isAhead_49 : decode cX10_isAhead 49 = .ok (.ifCond .eq 18, 3) := by decide +kernel
theorem dX10_isAhead_52 : decode cX10_isAhead 52 = .ok (.lload_n 3, 1) := by decide +kernel
theorem dX10_isAhead_53 : decode cX10_isAhead 53 = .ok (.lload 5, 2) := by decide +kernel
theorem dX10_isAhead_55 : decode cX10_isAhead 55 = .ok (.lcmp, 1) := by decide +kernel
theorem dX10_isAhead_56 : decode cX10_isAhead 56 = .ok (.ifCond .le 7, 3) := by decide +kernel
theorem dX10_isAhead_59 : decode cX10_isAhead 59 = .ok (.iconst 1, 1) := by decide +kernel
theorem dX10_isAhead_60 : decode cX10_isAhead 60 = .ok (.goto 17, 3) := by decide +kernel
theorem dX10_isAhead_63 : decode cX10_isAhead 63 = .ok (.iconst 0, 1) := by decide +kernel
theorem dX10_isAhead_64 : decode cX10_isAhead 64 = .ok (.goto 13, 3) := by decide +kernel
theorem dX10_isAhead_67 : decode cX10_isAhead 67 = .ok (.iload_n 1, 1) := by decide +kernel
theorem dX10_isAhead_68 : decode cX10_isAhead 68 = .ok (.iload_n 2, 1) := by decide +kernel
theorem dX10_isAhead_69 : decode cX10_isAhead 69 = .ok (.if_icmp .ge 7, 3) := by decide +kernel
theorem dX10_isAhead_72 : decode cX10_isAhead 72 = .ok (.iconst 1, 1) := by decide +kernel
theorem dX10_isAhead_73 : decode cX10_isAhead 73 = .ok (.goto 4, 3) := by decide +kernel
theorem dX10_isAhead_76 : decode cX10_isAhead 76 = .ok (.iconst 0, 1) := by decide +kernel
theorem dX10_isAhead_77 : decode cX10_isAhead 77 = .ok (.ireturn, 1) := by decide +kernel
theorem dX10_rank_0 : decode cX10_rank 0 = .ok (.iconst 0, 1) := by decide +kernel
theorem dX10_rank_1 : decode cX10_rank 1 = .ok (.istore_n 2, 1) := by decide +kernel
theorem dX10_rank_2 : decode cX10_rank 2 = .ok (.iload_n 2, 1) := by decide +kernel
theorem dX10_rank_3 : decode cX10_rank 3 = .ok (.bipush 9, 2) := by decide +kernel
theorem dX10_rank_5 : decode cX10_rank 5 = .ok (.if_icmp .ge 78, 3) := by decide +kernel
theorem dX10_rank_8 : decode cX10_rank 8 = .ok (.iconst 0, 1) := by decide +kernel
theorem dX10_rank_9 : decode cX10_rank 9 = .ok (.istore_n 3, 1) := by decide +kernel
theorem dX10_rank_10 : decode cX10_rank 10 = .ok (.iconst 0, 1) := by decide +kernel
theorem dX10_rank_11 : decode cX10_rank 11 = .ok (.istore 4, 2) := by decide +kernel
theorem dX10_rank_13 : decode cX10_rank 13 = .ok (.iload 4, 2) := by decide +kernel
theorem dX10_rank_15 : decode cX10_rank 15 = .ok (.bipush 9, 2) := by decide +kernel
theorem dX10_rank_17 : decode cX10_rank 17 = .ok (.if_icmp .ge 36, 3) := by decide +kernel
theorem dX10_rank_20 : decode cX10_rank 20 = .ok (.iload_n 3, 1) := by decide +kernel
theorem dX10_rank_21 : decode cX10_rank 21 = .ok (.aload_n 0, 1) := by decide +kernel
theorem dX10_rank_22 : decode cX10_rank 22 = .ok (.iload 4, 2) := by decide +kernel
theorem dX10_rank_24 : decode cX10_rank 24 = .ok (.invokevirtual 82, 3) := by decide +kernel
theorem dX10_rank_27 : decode cX10_rank 27 = .ok (.ifCond .eq 17, 3) := by decide +kernel
theorem dX10_rank_30 : decode cX10_rank 30 = .ok (.aload_n 0, 1) := by decide +kernel
theorem dX10_rank_31 : decode cX10_rank 31 = .ok (.iload 4, 2) := by decide +kernel
theorem dX10_rank_33 : decode cX10_rank 33 = .ok (.iload_n 2, 1) := by decide +kernel
theorem dX10_rank_34 : decode cX10_rank 34 = .ok (.invokevirtual 266, 3) := by decide +kernel
theorem dX10_rank_37 : decode cX10_rank 37 = .ok (.ifCond .eq 7, 3) := by decide +kernel
theorem dX10_rank_40 : decode cX10_rank 40 = .ok (.iconst 1, 1) := by decide +kernel
theorem dX10_rank_41 : decode cX10_rank 41 = .ok (.goto 4, 3) := by decide +kernel
theorem dX10_rank_44 : decode cX10_rank 44 = .ok (.iconst 0, 1) := by decide +kernel
theorem dX10_rank_45 : decode cX10_rank 45 = .ok (.iadd, 1) := by decide +kernel
theorem dX10_rank_46 : decode cX10_rank 46 = .ok (.istore_n 3, 1) := by decide +kernel
theorem dX10_rank_47 : decode cX10_rank 47 = .ok (.iinc 4 1, 3) := by decide +kernel
theorem dX10_rank_50 : decode cX10_rank 50 = .ok (.goto (-37), 3) := by decide +kernel
theorem dX10_rank_53 : decode cX10_rank 53 = .ok (.aload_n 0, 1) := by decide +kernel
theorem dX10_rank_54 : decode cX10_rank 54 = .ok (.iload_n 2, 1) := by decide +kernel
theorem dX10_rank_55 : decode cX10_rank 55 = .ok (.invokevirtual 82, 3) := by decide +kernel
theorem dX10_rank_58 : decode cX10_rank 58 = .ok (.ifCond .eq 19, 3) := by decide +kernel
theorem dX10_rank_61 : decode cX10_rank 61 = .ok (.iload_n 3, 1) := by decide +kernel
theorem dX10_rank_62 : decode cX10_rank 62 = .ok (.iload_n 1, 1) := by decide +kernel
theorem dX10_rank_63 : decode cX10_rank 63 = .ok (.if_icmp .ne 14, 3) := by decide +kernel
theorem dX10_rank_66 : decode cX10_rank 66 = .ok (.bipush 10, 2) := by decide +kernel
theorem dX10_rank_68 : decode cX10_rank 68 = .ok (.iload_n 2, 1) := by decide +kernel
theorem dX10_rank_69 : decode cX10_rank 69 = .ok (.iconst 3, 1) := by decide +kernel
theorem dX10_rank_70 : decode cX10_rank 70 = .ok (.idiv, 1) := by decide +kernel
theorem dX10_rank_71 : decode cX10_rank 71 = .ok (.imul, 1) := by decide +kernel
theorem dX10_rank_72 : decode cX10_rank 72 = .ok (.iload_n 2, 1) := by decide +kernel
theorem dX10_rank_73 : decode cX10_rank 73 = .ok (.iconst 3, 1) := by decide +kernel
theorem dX10_rank_74 : decode cX10_rank 74 = .ok (.irem, 1) := by decide +kernel
theorem dX10_rank_75 : decode cX10_rank 75 = .ok (.iadd, 1) := by decide +kernel
theorem dX10_rank_76 : decode cX10_rank 76 = .ok (.ireturn, 1) := by decide +kernel
theorem dX10_rank_77 : decode cX10_rank 77 = .ok (.iinc 2 1, 3) := by decide +kernel
theorem dX10_rank_80 : decode cX10_rank 80 = .ok (.goto (-78), 3) := by decide +kernel
theorem dX10_rank_83 : decode cX10_rank 83 = .ok (.iconst (-1), 1) := by decide +kernel
theorem dX10_rank_84 : decode cX10_rank 84 = .ok (.ireturn, 1) := by decide +kernel
theorem dX10_lists_0 : decode cX10_lists 0 = .ok (.iload 4, 2) := by decide +kernel
theorem dX10_lists_2 : decode cX10_lists 2 = .ok (.iconst (-1), 1) := by decide +kernel
theorem dX10_lists_3 : decode cX10_lists 3 = .ok (.if_icmp .ne 12, 3) := by decide +kernel
theorem dX10_lists_6 : decode cX10_lists 6 = .ok (.aload_n 0, 1) := by decide +kernel
theorem dX10_lists_7 : decode cX10_lists 7 = .ok (.getfield 11, 3) := by decide +kernel
theorem dX10_lists_10 : decode cX10_lists 10 = .ok (.iload_n 1, 1) := by decide +kernel
theorem dX10_lists_11 : decode cX10_lists 11 = .ok (.iconst 0, 1) := by decide +kernel
theorem dX10_lists_12 : decode cX10_lists 12 = .ok (.iastore, 1) := by decide +kernel
theorem dX10_lists_13 : decode cX10_lists 13 = .ok (.iconst 0, 1) := by decide +kernel
theorem dX10_lists_14 : decode cX10_lists 14 = .ok (.ireturn, 1) := by decide +kernel
theorem dX10_lists_15 : decode cX10_lists 15 = .ok (.aload_n 0, 1) := by decide +kernel
theorem dX10_lists_16 : decode cX10_lists 16 = .ok (.iload 4, 2) := by decide +kernel
theorem dX10_lists_18 : decode cX10_lists 18 = .ok (.iload 5, 2) := by decide +kernel
theorem dX10_lists_20 : decode cX10_lists 20 = .ok (.invokevirtual 72, 3) := by decide +kernel
theorem dX10_lists_23 : decode cX10_lists 23 = .ok (.ifCond .ne 5, 3) := by decide +kernel
theorem dX10_lists_26 : decode cX10_lists 26 = .ok (.iconst (-1), 1) := by decide +kernel
theorem dX10_lists_27 : decode cX10_lists 27 = .ok (.ireturn, 1) := by decide +kernel
theorem dX10_lists_28 : decode cX10_lists 28 = .ok (.iload 6, 2) := by decide +kernel
theorem dX10_lists_30 : decode cX10_lists 30 = .ok (.i2l, 1) := by decide +kernel
theorem dX10_lists_31 : decode cX10_lists 31 = .ok (.lconst 0, 1) := by decide +kernel
theorem dX10_lists_32 : decode cX10_lists 32 = .ok (.ldc2_w 100, 3) := by decide +kernel
theorem dX10_lists_35 : decode cX10_lists 35 = .ok (.invokestatic 68, 3) := by decide +kernel
theorem dX10_lists_38 : decode cX10_lists 38 = .ok (.ifCond .ne 6, 3) := by decide +kernel
theorem dX10_lists_41 : decode cX10_lists 41 = .ok (.bipush (-2), 2) := by decide +kernel
theorem dX10_lists_43 : decode cX10_lists 43 = .ok (.ireturn, 1) := by decide +kernel
theorem dX10_lists_44 : decode cX10_lists 44 = .ok (.aload_n 0, 1) := by decide +kernel
theorem dX10_lists_45 : decode cX10_lists 45 = .ok (.getfield 11, 3) := by decide +kernel
theorem dX10_lists_48 : decode cX10_lists 48 = .ok (.iload_n 1, 1) := by decide +kernel
theorem dX10_lists_49 : decode cX10_lists 49 = .ok (.iaload, 1) := by decide +kernel
theorem dX10_lists_50 : decode cX10_lists 50 = .ok (.iload_n 3, 1) := by decide +kernel
theorem dX10_lists_51 : decode cX10_lists 51 = .ok (.if_icmp .ne 6, 3) := by decide +kernel
theorem dX10_lists_54 : decode cX10_lists 54 = .ok (.bipush (-4), 2) := by decide +kernel
theorem dX10_lists_56 : decode cX10_lists 56 = .ok (.ireturn, 1) := by decide +kernel
theorem dX10_lists_57 : decode cX10_lists 57 = .ok (.aload_n 0, 1) := by decide +kernel
theorem dX10_lists_58 : decode cX10_lists 58 = .ok (.getfield 11, 3) := by decide +kernel
theorem dX10_lists_61 : decode cX10_lists 61 = .ok (.iload_n 2, 1) := by decide +kernel
theorem dX10_lists_62 : decode cX10_lists 62 = .ok (.aload_n 0, 1) := by decide +kernel
theorem dX10_lists_63 : decode cX10_lists 63 = .ok (.getfield 11, 3) := by decide +kernel
theorem dX10_lists_66 : decode cX10_lists 66 = .ok (.iload_n 1, 1) := by decide +kernel
theorem dX10_lists_67 : decode cX10_lists 67 = .ok (.iaload, 1) := by decide +kernel
theorem dX10_lists_68 : decode cX10_lists 68 = .ok (.iadd, 1) := by decide +kernel
theorem dX10_lists_69 : decode cX10_lists 69 = .ok (.bipush 100, 2) := by decide +kernel
theorem dX10_lists_71 : decode cX10_lists 71 = .ok (.iconst 3, 1) := by decide +kernel
theorem dX10_lists_72 : decode cX10_lists 72 = .ok (.iload 4, 2) := by decide +kernel
theorem dX10_lists_74 : decode cX10_lists 74 = .ok (.imul, 1) := by decide +kernel
theorem dX10_lists_75 : decode cX10_lists 75 = .ok (.iload 5, 2) := by decide +kernel
theorem dX10_lists_77 : decode cX10_lists 77 = .ok (.iadd, 1) := by decide +kernel
theorem dX10_lists_78 : decode cX10_lists 78 = .ok (.imul, 1) := by decide +kernel
theorem dX10_lists_79 : decode cX10_lists 79 = .ok (.iload 6, 2) := by decide +kernel
theorem dX10_lists_81 : decode cX10_lists 81 = .ok (.iadd, 1) := by decide +kernel
theorem dX10_lists_82 : decode cX10_lists 82 = .ok (.iastore, 1) := by decide +kernel
theorem dX10_lists_83 : decode cX10_lists 83 = .ok (.aload_n 0, 1) := by decide +kernel
theorem dX10_lists_84 : decode cX10_lists 84 = .ok (.getfield 11, 3) := by decide +kernel
theorem dX10_lists_87 : decode cX10_lists 87 = .ok (.iload_n 1, 1) := by decide +kernel
theorem dX10_lists_88 : decode cX10_lists 88 = .ok (.dup2, 1) := by decide +kernel
theorem dX10_lists_89 : decode cX10_lists 89 = .ok (.iaload, 1) := by decide +kernel
theorem dX10_lists_90 : decode cX10_lists 90 = .ok (.iconst 1, 1) := by decide +kernel
theorem dX10_lists_91 : decode cX10_lists 91 = .ok (.iadd, 1) := by decide +kernel
theorem dX10_lists_92 : decode cX10_lists 92 = .ok (.iastore, 1) := by decide +kernel
theorem dX10_lists_93 : decode cX10_lists 93 = .ok (.aload_n 0, 1) := by decide +kernel
theorem dX10_lists_94 : decode cX10_lists 94 = .ok (.getfield 11, 3) := by decide +kernel
theorem dX10_lists_97 : decode cX10_lists 97 = .ok (.iload_n 1, 1) := by decide +kernel
theorem dX10_lists_98 : decode cX10_lists 98 = .ok (.iaload, 1) := by decide +kernel
theorem dX10_lists_99 : decode cX10_lists 99 = .ok (.ireturn, 1) := by decide +kernel
theorem dX10_firstOtherwise_0 : decode cX10_firstOtherwise 0 = .ok (.iconst 0, 1) := by decide +kernel
theorem dX10_firstOtherwise_1 : decode cX10_firstOtherwise 1 = .ok (.istore_n 3, 1) := by decide +kernel
theorem dX10_firstOtherwise_2 : decode cX10_firstOtherwise 2 = .ok (.iload_n 3, 1) := by decide +kernel
theorem dX10_firstOtherwise_3 : decode cX10_firstOtherwise 3 = .ok (.aload_n 0, 1) := by decide +kernel
theorem dX10_firstOtherwise_4 : decode cX10_firstOtherwise 4 = .ok (.getfield 11, 3) := by decide +kernel
theorem dX10_firstOtherwise_7 : decode cX10_firstOtherwise 7 = .ok (.iload_n 1, 1) := by decide +kernel
theorem dX10_firstOtherwise_8 : decode cX10_firstOtherwise 8 = .ok (.iaload, 1) := by decide +kernel
theorem dX10_firstOtherwise_9 : decode cX10_firstOtherwise 9 = .ok (.if_icmp .ge 41, 3) := by decide +kernel
theorem dX10_firstOtherwise_12 : decode cX10_firstOtherwise 12 = .ok (.aload_n 0, 1) := by decide +kernel
theorem dX10_firstOtherwise_13 : decode cX10_firstOtherwise 13 = .ok (.getfield 42, 3) := by decide +kernel
theorem dX10_firstOtherwise_16 : decode cX10_firstOtherwise 16 = .ok (.aload_n 0, 1) := by decide +kernel
theorem dX10_firstOtherwise_17 : decode cX10_firstOtherwise 17 = .ok (.getfield 11, 3) := by decide +kernel
theorem dX10_firstOtherwise_20 : decode cX10_firstOtherwise 20 = .ok (.iload_n 2, 1) := by decide +kernel
theorem dX10_firstOtherwise_21 : decode cX10_firstOtherwise 21 = .ok (.iload_n 3, 1) := by decide +kernel
theorem dX10_firstOtherwise_22 : decode cX10_firstOtherwise 22 = .ok (.iadd, 1) := by decide +kernel
theorem dX10_firstOtherwise_23 : decode cX10_firstOtherwise 23 = .ok (.iaload, 1) := by decide +kernel
theorem dX10_firstOtherwise_24 : decode cX10_firstOtherwise 24 = .ok (.bipush 100, 2) := by decide +kernel
theorem dX10_firstOtherwise_26 : decode cX10_firstOtherwise 26 = .ok (.idiv, 1) := by decide +kernel
theorem dX10_firstOtherwise_27 : decode cX10_firstOtherwise 27 = .ok (.iaload, 1) := by decide +kernel
theorem dX10_firstOtherwise_28 : decode cX10_firstOtherwise 28 = .ok (.aload_n 0, 1) := by decide +kernel
theorem dX10_firstOtherwise_29 : decode cX10_firstOtherwise 29 = .ok (.getfield 11, 3) := by decide +kernel
theorem dX10_firstOtherwise_32 : decode cX10_firstOtherwise 32 = .ok (.iload_n 2, 1) := by decide +kernel
theorem dX10_firstOtherwise_33 : decode cX10_firstOtherwise 33 = .ok (.iload_n 3, 1) := by decide +kernel
theorem dX10_firstOtherwise_34 : decode cX10_firstOtherwise 34 = .ok (.iadd, 1) := by decide +kernel
theorem dX10_firstOtherwise_35 : decode cX10_firstOtherwise 35 = .ok (.iaload, 1) := by decide +kernel
theorem dX10_firstOtherwise_36 : decode cX10_firstOtherwise 36 = .ok (.bipush 100, 2) := by decide +kernel
theorem dX10_firstOtherwise_38 : decode cX10_firstOtherwise 38 = .ok (.irem, 1) := by decide +kernel
theorem dX10_firstOtherwise_39 : decode cX10_firstOtherwise 39 = .ok (.if_icmp .eq 5, 3) := by decide +kernel
theorem dX10_firstOtherwise_42 : decode cX10_firstOtherwise 42 = .ok (.iload_n 3, 1) := by decide +kernel
theorem dX10_firstOtherwise_43 : decode cX10_firstOtherwise 43 = .ok (.ireturn, 1) := by decide +kernel
theorem dX10_firstOtherwise_44 : decode cX10_firstOtherwise 44 = .ok (.iinc 3 1, 3) := by decide +kernel
theorem dX10_firstOtherwise_47 : decode cX10_firstOtherwise 47 = .ok (.goto (-45), 3) := by decide +kernel
theorem dX10_firstOtherwise_50 : decode cX10_firstOtherwise 50 = .ok (.bipush (-5), 2) := by decide +kernel
theorem dX10_firstOtherwise_52 : decode cX10_firstOtherwise 52 = .ok (.ireturn, 1) := by decide +kernel
theorem dX10_see_0 : decode cX10_see 0 = .ok (.aload_n 0, 1) := by decide +kernel
theorem dX10_see_1 : decode cX10_see 1 = .ok (.iconst 4, 1) := by decide +kernel
theorem dX10_see_2 : decode cX10_see 2 = .ok (.bipush 52, 2) := by decide +kernel
theorem dX10_see_4 : decode cX10_see 4 = .ok (.iconst 5, 1) := by decide +kernel
theorem dX10_see_5 : decode cX10_see 5 = .ok (.iload_n 1, 1) := by decide +kernel
theorem dX10_see_6 : decode cX10_see 6 = .ok (.iload_n 2, 1) := by decide +kernel
theorem dX10_see_7 : decode cX10_see 7 = .ok (.iload_n 3, 1) := by decide +kernel
theorem dX10_see_8 : decode cX10_see 8 = .ok (.invokevirtual 269, 3) := by decide +kernel
theorem dX10_see_11 : decode cX10_see 11 = .ok (.ireturn, 1) := by decide +kernel
theorem dX10_isRoundedBy_0 : decode cX10_isRoundedBy 0 = .ok (.aload_n 0, 1) := by decide +kernel
theorem dX10_isRoundedBy_1 : decode cX10_isRoundedBy 1 = .ok (.getfield 11, 3) := by decide +kernel
theorem dX10_isRoundedBy_4 : decode cX10_isRoundedBy 4 = .ok (.bipush 7, 2) := by decide +kernel
theorem dX10_isRoundedBy_6 : decode cX10_isRoundedBy 6 = .ok (.iload_n 1, 1) := by decide +kernel
theorem dX10_isRoundedBy_7 : decode cX10_isRoundedBy 7 = .ok (.iadd, 1) := by decide +kernel
theorem dX10_isRoundedBy_8 : decode cX10_isRoundedBy 8 = .ok (.iload_n 2, 1) := by decide +kernel
theorem dX10_isRoundedBy_9 : decode cX10_isRoundedBy 9 = .ok (.iastore, 1) := by decide +kernel
theorem dX10_isRoundedBy_10 : decode cX10_isRoundedBy 10 = .ok (.aload_n 0, 1) := by decide +kernel
theorem dX10_isRoundedBy_11 : decode cX10_isRoundedBy 11 = .ok (.invokevirtual 88, 3) := by decide +kernel
theorem dX10_isRoundedBy_14 : decode cX10_isRoundedBy 14 = .ok (.pop, 1) := by decide +kernel
theorem dX10_isRoundedBy_15 : decode cX10_isRoundedBy 15 = .ok (.aload_n 0, 1) := by decide +kernel
theorem dX10_isRoundedBy_16 : decode cX10_isRoundedBy 16 = .ok (.invokevirtual 183, 3) := by decide +kernel
theorem dX10_isRoundedBy_19 : decode cX10_isRoundedBy 19 = .ok (.pop, 1) := by decide +kernel
theorem dX10_isRoundedBy_20 : decode cX10_isRoundedBy 20 = .ok (.aload_n 0, 1) := by decide +kernel
theorem dX10_isRoundedBy_21 : decode cX10_isRoundedBy 21 = .ok (.invokevirtual 253, 3) := by decide +kernel
theorem dX10_isRoundedBy_24 : decode cX10_isRoundedBy 24 = .ok (.ireturn, 1) := by decide +kernel
theorem dX10_keeps_0 : decode cX10_keeps 0 = .ok (.aload_n 0, 1) := by decide +kernel
theorem dX10_keeps_1 : decode cX10_keeps 1 = .ok (.getfield 11, 3) := by decide +kernel
theorem dX10_keeps_4 : decode cX10_keeps 4 = .ok (.iconst 0, 1) := by decide +kernel
theorem dX10_keeps_5 : decode cX10_keeps 5 = .ok (.aload_n 0, 1) := by decide +kernel
theorem dX10_keeps_6 : decode cX10_keeps 6 = .ok (.getfield 18, 3) := by decide +kernel
theorem dX10_keeps_9 : decode cX10_keeps 9 = .ok (.iconst 0, 1) := by decide +kernel
theorem dX10_keeps_10 : decode cX10_keeps 10 = .ok (.bipush 73, 2) := by decide +kernel
theorem dX10_keeps_12 : decode cX10_keeps 12 = .ok (.invokestatic 177, 3) := by decide +kernel
theorem dX10_keeps_15 : decode cX10_keeps 15 = .ok (.return_, 1) := by decide +kernel
theorem dX10_laysBack_0 : decode cX10_laysBack 0 = .ok (.aload_n 0, 1) := by decide +kernel
theorem dX10_laysBack_1 : decode cX10_laysBack 1 = .ok (.getfield 18, 3) := by decide +kernel
theorem dX10_laysBack_4 : decode cX10_laysBack 4 = .ok (.iconst 0, 1) := by decide +kernel
theorem dX10_laysBack_5 : decode cX10_laysBack 5 = .ok (.aload_n 0, 1) := by decide +kernel
theorem dX10_laysBack_6 : decode cX10_laysBack 6 = .ok (.getfield 11, 3) := by decide +kernel
theorem dX10_laysBack_9 : decode cX10_laysBack 9 = .ok (.iconst 0, 1) := by decide +kernel
theorem dX10_laysBack_10 : decode cX10_laysBack 10 = .ok (.bipush 73, 2) := by decide +kernel
theorem dX10_laysBack_12 : decode cX10_laysBack 12 = .ok (.invokestatic 177, 3) := by decide +kernel
theorem dX10_laysBack_15 : decode cX10_laysBack 15 = .ok (.return_, 1) := by decide +kernel
theorem dX10_fitting_0 : decode cX10_fitting 0 = .ok (.aload_n 0, 1) := by decide +kernel
theorem dX10_fitting_1 : decode cX10_fitting 1 = .ok (.iload_n 1, 1) := by decide +kernel
theorem dX10_fitting_2 : decode cX10_fitting 2 = .ok (.iload_n 2, 1) := by decide +kernel
theorem dX10_fitting_3 : decode cX10_fitting 3 = .ok (.invokevirtual 72, 3) := by decide +kernel
theorem dX10_fitting_6 : decode cX10_fitting 6 = .ok (.ifCond .eq 13, 3) := by decide +kernel
theorem dX10_fitting_9 : decode cX10_fitting 9 = .ok (.iload_n 3, 1) := by decide +kernel
theorem dX10_fitting_10 : decode cX10_fitting 10 = .ok (.i2l, 1) := by decide +kernel
theorem dX10_fitting_11 : decode cX10_fitting 11 = .ok (.lconst 0, 1) := by decide +kernel
theorem dX10_fitting_12 : decode cX10_fitting 12 = .ok (.lconst 1, 1) := by decide +kernel
theorem dX10_fitting_13 : decode cX10_fitting 13 = .ok (.invokestatic 68, 3) := by decide +kernel
theorem dX10_fitting_16 : decode cX10_fitting 16 = .ok (.ifCond .ne 5, 3) := by decide +kernel
theorem dX10_fitting_19 : decode cX10_fitting 19 = .ok (.iconst (-1), 1) := by decide +kernel
theorem dX10_fitting_20 : decode cX10_fitting 20 = .ok (.ireturn, 1) := by decide +kernel
theorem dX10_fitting_21 : decode cX10_fitting 21 = .ok (.aload_n 0, 1) := by decide +kernel
theorem dX10_fitting_22 : decode cX10_fitting 22 = .ok (.invokevirtual 273, 3) := by decide +kernel
theorem dX10_fitting_25 : decode cX10_fitting 25 = .ok (.iconst 0, 1) := by decide +kernel
theorem dX10_fitting_26 : decode cX10_fitting 26 = .ok (.istore 4, 2) := by decide +kernel
theorem dX10_fitting_28 : decode cX10_fitting 28 = .ok (.bipush (-5), 2) := by decide +kernel
theorem dX10_fitting_30 : decode cX10_fitting 30 = .ok (.istore 5, 2) := by decide +kernel
theorem dX10_fitting_32 : decode cX10_fitting 32 = .ok (.bipush 20, 2) := by decide +kernel
theorem dX10_fitting_34 : decode cX10_fitting 34 = .ok (.istore 6, 2) := by decide +kernel
theorem dX10_fitting_36 : decode cX10_fitting 36 = .ok (.iload 6, 2) := by decide +kernel
theorem dX10_fitting_38 : decode cX10_fitting 38 = .ok (.ifCond .lt 42, 3) := by decide +kernel
theorem dX10_fitting_41 : decode cX10_fitting 41 = .ok (.aload_n 0, 1) := by decide +kernel
theorem dX10_fitting_42 : decode cX10_fitting 42 = .ok (.iconst 3, 1) := by decide +kernel
theorem dX10_fitting_43 : decode cX10_fitting 43 = .ok (.iload_n 1, 1) := by decide +kernel
theorem dX10_fitting_44 : decode cX10_fitting 44 = .ok (.imul, 1) := by decide +kernel
theorem dX10_fitting_45 : decode cX10_fitting 45 = .ok (.iload_n 2, 1) := by decide +kernel
theorem dX10_fitting_46 : decode cX10_fitting 46 = .ok (.iadd, 1) := by decide +kernel
theorem dX10_fitting_47 : decode cX10_fitting 47 = .ok (.iload 6, 2) := by decide +kernel
theorem dX10_fitting_49 : decode cX10_fitting 49 = .ok (.invokevirtual 276, 3) := by decide +kernel
theorem dX10_fitting_52 : decode cX10_fitting 52 = .ok (.ifCond .eq 22, 3) := by decide +kernel
theorem dX10_fitting_55 : decode cX10_fitting 55 = .ok (.aload_n 0, 1) := by decide +kernel
theorem dX10_fitting_56 : decode cX10_fitting 56 = .ok (.iconst 4, 1) := by decide +kernel
theorem dX10_fitting_57 : decode cX10_fitting 57 = .ok (.bipush 52, 2) := by decide +kernel
theorem dX10_fitting_59 : decode cX10_fitting 59 = .ok (.invokevirtual 279, 3) := by decide +kernel
theorem dX10_fitting_62 : decode cX10_fitting 62 = .ok (.bipush (-5), 2) := by decide +kernel
theorem dX10_fitting_64 : decode cX10_fitting 64 = .ok (.if_icmp .ne 10, 3) := by decide +kernel
theorem dX10_fitting_67 : decode cX10_fitting 67 = .ok (.iinc 4 1, 3) := by decide +kernel
theorem dX10_fitting_70 : decode cX10_fitting 70 = .ok (.iload 6, 2) := by decide +kernel
theorem dX10_fitting_72 : decode cX10_fitting 72 = .ok (.istore 5, 2) := by decide +kernel
theorem dX10_fitting_74 : decode cX10_fitting 74 = .ok (.iinc 6 (-1), 3) := by decide +kernel
theorem dX10_fitting_77 : decode cX10_fitting 77 = .ok (.goto (-41), 3) := by decide +kernel
theorem dX10_fitting_80 : decode cX10_fitting 80 = .ok (.aload_n 0, 1) := by decide +kernel
theorem dX10_fitting_81 : decode cX10_fitting 81 = .ok (.invokevirtual 282, 3) := by decide +kernel
theorem dX10_fitting_84 : decode cX10_fitting 84 = .ok (.iload_n 3, 1) := by decide +kernel
theorem dX10_fitting_85 : decode cX10_fitting 85 = .ok (.ifCond .ne 8, 3) := by decide +kernel
theorem dX10_fitting_88 : decode cX10_fitting 88 = .ok (.iload 4, 2) := by decide +kernel
theorem dX10_fitting_90 : decode cX10_fitting 90 = .ok (.goto 5, 3) := by decide +kernel
theorem dX10_fitting_93 : decode cX10_fitting 93 = .ok (.iload 5, 2) := by decide +kernel
theorem dX10_fitting_95 : decode cX10_fitting 95 = .ok (.ireturn, 1) := by decide +kernel
theorem dX10_odds_0 : decode cX10_odds 0 = .ok (.aload_n 0, 1) := by decide +kernel
theorem dX10_odds_1 : decode cX10_odds 1 = .ok (.iload_n 1, 1) := by decide +kernel
theorem dX10_odds_2 : decode cX10_odds 2 = .ok (.iload_n 2, 1) := by decide +kernel
theorem dX10_odds_3 : decode cX10_odds 3 = .ok (.invokevirtual 72, 3) := by decide +kernel
theorem dX10_odds_6 : decode cX10_odds 6 = .ok (.ifCond .eq 10, 3) := by decide +kernel
theorem dX10_odds_9 : decode cX10_odds 9 = .ok (.iload_n 3, 1) := by decide +kernel
theorem dX10_odds_10 : decode cX10_odds 10 = .ok (.invokestatic 187, 3) := by decide +kernel
theorem dX10_odds_13 : decode cX10_odds 13 = .ok (.ifCond .ne 7, 3) := by decide +kernel
theorem dX10_odds_16 : decode cX10_odds 16 = .ok (.ldc2_w 190, 3) := by decide +kernel
theorem dX10_odds_19 : decode cX10_odds 19 = .ok (.lreturn, 1) := by decide +kernel
theorem dX10_odds_20 : decode cX10_odds 20 = .ok (.aload_n 0, 1) := by decide +kernel
theorem dX10_odds_21 : decode cX10_odds 21 = .ok (.invokevirtual 273, 3) := by decide +kernel
theorem dX10_odds_24 : decode cX10_odds 24 = .ok (.iconst 0, 1) := by decide +kernel
theorem dX10_odds_25 : decode cX10_odds 25 = .ok (.istore 4, 2) := by decide +kernel
theorem dX10_odds_27 : decode cX10_odds 27 = .ok (.iconst 0, 1) := by decide +kernel
theorem dX10_odds_28 : decode cX10_odds 28 = .ok (.istore 5, 2) := by decide +kernel
theorem dX10_odds_30 : decode cX10_odds 30 = .ok (.iload 5, 2) := by decide +kernel
theorem dX10_odds_32 : decode cX10_odds 32 = .ok (.bipush 10, 2) := by decide +kernel
theorem dX10_odds_34 : decode cX10_odds 34 = .ok (.if_icmp .ge 48, 3) := by decide +kernel
theorem dX10_odds_37 : decode cX10_odds 37 = .ok (.iload 4, 2) := by decide +kernel
theorem dX10_odds_39 : decode cX10_odds 39 = .ok (.aload_n 0, 1) := by decide +kernel
theorem dX10_odds_40 : decode cX10_odds 40 = .ok (.iconst 3, 1) := by decide +kernel
theorem dX10_odds_41 : decode cX10_odds 41 = .ok (.iload_n 1, 1) := by decide +kernel
theorem dX10_odds_42 : decode cX10_odds 42 = .ok (.imul, 1) := by decide +kernel
theorem dX10_odds_43 : decode cX10_odds 43 = .ok (.iload_n 2, 1) := by decide +kernel
theorem dX10_odds_44 : decode cX10_odds 44 = .ok (.iadd, 1) := by decide +kernel
theorem dX10_odds_45 : decode cX10_odds 45 = .ok (.iload 5, 2) := by decide +kernel
theorem dX10_odds_47 : decode cX10_odds 47 = .ok (.invokevirtual 276, 3) := by decide +kernel
theorem dX10_odds_50 : decode cX10_odds 50 = .ok (.ifCond .eq 22, 3) := by decide +kernel
theorem dX10_odds_53 : decode cX10_odds 53 = .ok (.aload_n 0, 1) := by decide +kernel
theorem dX10_odds_54 : decode cX10_odds 54 = .ok (.getfield 42, 3) := by decide +kernel
theorem dX10_odds_57 : decode cX10_odds 57 = .ok (.iconst 3, 1) := by decide +kernel
theorem dX10_odds_58 : decode cX10_odds 58 = .ok (.iload_n 1, 1) := by decide +kernel
theorem dX10_odds_59 : decode cX10_odds 59 = .ok (.imul, 1) := by decide +kernel
theorem dX10_odds_60 : decode cX10_odds 60 = .ok (.iload_n 2, 1) := by decide +kernel
theorem dX10_odds_61 : decode cX10_odds 61 = .ok (.iadd, 1) := by decide +kernel
theorem dX10_odds_62 : decode cX10_odds 62 = .ok (.iaload, 1) := by decide +kernel
theorem dX10_odds_63 : decode cX10_odds 63 = .ok (.iload 5, 2) := by decide +kernel
theorem dX10_odds_65 : decode cX10_odds 65 = .ok (.if_icmp .lt 7, 3) := by decide +kernel
theorem dX10_odds_68 : decode cX10_odds 68 = .ok (.iconst 1, 1) := by decide +kernel
theorem dX10_odds_69 : decode cX10_odds 69 = .ok (.goto 4, 3) := by decide +kernel
theorem dX10_odds_72 : decode cX10_odds 72 = .ok (.iconst 0, 1) := by decide +kernel
theorem dX10_odds_73 : decode cX10_odds 73 = .ok (.iadd, 1) := by decide +kernel
theorem dX10_odds_74 : decode cX10_odds 74 = .ok (.istore 4, 2) := by decide +kernel
theorem dX10_odds_76 : decode cX10_odds 76 = .ok (.iinc 5 1, 3) := by decide +kernel
theorem dX10_odds_79 : decode cX10_odds 79 = .ok (.goto (-49), 3) := by decide +kernel
theorem dX10_odds_82 : decode cX10_odds 82 = .ok (.aload_n 0, 1) := by decide +kernel
theorem dX10_odds_83 : decode cX10_odds 83 = .ok (.invokevirtual 282, 3) := by decide +kernel
theorem dX10_odds_86 : decode cX10_odds 86 = .ok (.aload_n 0, 1) := by decide +kernel
theorem dX10_odds_87 : decode cX10_odds 87 = .ok (.iload 4, 2) := by decide +kernel
theorem dX10_odds_89 : decode cX10_odds 89 = .ok (.i2l, 1) := by decide +kernel
theorem dX10_odds_90 : decode cX10_odds 90 = .ok (.ldc2_w 285, 3) := by decide +kernel
theorem dX10_odds_93 : decode cX10_odds 93 = .ok (.invokevirtual 156, 3) := by decide +kernel
theorem dX10_odds_96 : decode cX10_odds 96 = .ok (.pop, 1) := by decide +kernel
theorem dX10_odds_97 : decode cX10_odds 97 = .ok (.iload_n 3, 1) := by decide +kernel
theorem dX10_odds_98 : decode cX10_odds 98 = .ok (.ifCond .ne 10, 3) := by decide +kernel
theorem dX10_odds_101 : decode cX10_odds 101 = .ok (.aload_n 0, 1) := by decide +kernel
theorem dX10_odds_102 : decode cX10_odds 102 = .ok (.getfield 147, 3) := by decide +kernel
theorem dX10_odds_105 : decode cX10_odds 105 = .ok (.goto 7, 3) := by decide +kernel
theorem dX10_odds_108 : decode cX10_odds 108 = .ok (.aload_n 0, 1) := by decide +kernel
theorem dX10_odds_109 : decode cX10_odds 109 = .ok (.getfield 151, 3) := by decide +kernel
theorem dX10_odds_112 : decode cX10_odds 112 = .ok (.lreturn, 1) := by decide +kernel
theorem dX10_mean_0 : decode cX10_mean 0 = .ok (.iload_n 1, 1) := by decide +kernel
theorem dX10_mean_1 : decode cX10_mean 1 = .ok (.invokestatic 187, 3) := by decide +kernel
theorem dX10_mean_4 : decode cX10_mean 4 = .ok (.ifCond .ne 7, 3) := by decide +kernel
theorem dX10_mean_7 : decode cX10_mean 7 = .ok (.ldc2_w 190, 3) := by decide +kernel
theorem dX10_mean_10 : decode cX10_mean 10 = .ok (.lreturn, 1) := by decide +kernel
theorem dX10_mean_11 : decode cX10_mean 11 = .ok (.aload_n 0, 1) := by decide +kernel
theorem dX10_mean_12 : decode cX10_mean 12 = .ok (.aload_n 0, 1) := by decide +kernel
theorem dX10_mean_13 : decode cX10_mean 13 = .ok (.invokevirtual 226, 3) := by decide +kernel
theorem dX10_mean_16 : decode cX10_mean 16 = .ok (.i2l, 1) := by decide +kernel
theorem dX10_mean_17 : decode cX10_mean 17 = .ok (.aload_n 0, 1) := by decide +kernel
theorem dX10_mean_18 : decode cX10_mean 18 = .ok (.getfield 11, 3) := by decide +kernel
theorem dX10_mean_21 : decode cX10_mean 21 = .ok (.iconst 0, 1) := by decide +kernel
theorem dX10_mean_22 : decode cX10_mean 22 = .ok (.iaload, 1) := by decide +kernel
theorem dX10_mean_23 : decode cX10_mean 23 = .ok (.i2l, 1) := by decide +kernel
theorem dX10_mean_24 : decode cX10_mean 24 = .ok (.aload_n 0, 1) := by decide +kernel
theorem dX10_mean_25 : decode cX10_mean 25 = .ok (.getfield 11, 3) := by decide +kernel
theorem dX10_mean_28 : decode cX10_mean 28 = .ok (.iconst 1, 1) := by decide +kernel
theorem dX10_mean_29 : decode cX10_mean 29 = .ok (.iaload, 1) := by decide +kernel
theorem dX10_mean_30 : decode cX10_mean 30 = .ok (.i2l, 1) := by decide +kernel
theorem dX10_mean_31 : decode cX10_mean 31 = .ok (.lmul, 1) := by decide +kernel
theorem dX10_mean_32 : decode cX10_mean 32 = .ok (.invokevirtual 156, 3) := by decide +kernel
theorem dX10_mean_35 : decode cX10_mean 35 = .ok (.pop, 1) := by decide +kernel
theorem dX10_mean_36 : decode cX10_mean 36 = .ok (.iload_n 1, 1) := by decide +kernel
theorem dX10_mean_37 : decode cX10_mean 37 = .ok (.ifCond .ne 10, 3) := by decide +kernel
theorem dX10_mean_40 : decode cX10_mean 40 = .ok (.aload_n 0, 1) := by decide +kernel
theorem dX10_mean_41 : decode cX10_mean 41 = .ok (.getfield 147, 3) := by decide +kernel
theorem dX10_mean_44 : decode cX10_mean 44 = .ok (.goto 7, 3) := by decide +kernel
theorem dX10_mean_47 : decode cX10_mean 47 = .ok (.aload_n 0, 1) := by decide +kernel
theorem dX10_mean_48 : decode cX10_mean 48 = .ok (.getfield 151, 3) := by decide +kernel
theorem dX10_mean_51 : decode cX10_mean 51 = .ok (.lreturn, 1) := by decide +kernel
theorem dX10_isOf_0 : decode cX10_isOf 0 = .ok (.iload_n 1, 1) := by decide +kernel
theorem dX10_isOf_1 : decode cX10_isOf 1 = .ok (.tableswitch 66 0 2 #[27, 52, 59], 27) := by decide +kernel
theorem dX10_isOf_28 : decode cX10_isOf 28 = .ok (.iload_n 2, 1) := by decide +kernel
theorem dX10_isOf_29 : decode cX10_isOf 29 = .ok (.ifCond .lt 22, 3) := by decide +kernel
theorem dX10_isOf_32 : decode cX10_isOf 32 = .ok (.aload_n 0, 1) := by decide +kernel
theorem dX10_isOf_33 : decode cX10_isOf 33 = .ok (.iload_n 2, 1) := by decide +kernel
theorem dX10_isOf_34 : decode cX10_isOf 34 = .ok (.bipush 10, 2) := by decide +kernel
theorem dX10_isOf_36 : decode cX10_isOf 36 = .ok (.idiv, 1) := by decide +kernel
theorem dX10_isOf_37 : decode cX10_isOf 37 = .ok (.iload_n 2, 1) := by decide +kernel
theorem dX10_isOf_38 : decode cX10_isOf 38 = .ok (.bipush 10, 2) := by decide +kernel
theorem dX10_isOf_40 : decode cX10_isOf 40 = .ok (.irem, 1) := by decide +kernel
theorem dX10_isOf_41 : decode cX10_isOf 41 = .ok (.invokevirtual 72, 3) := by decide +kernel
theorem dX10_isOf_44 : decode cX10_isOf 44 = .ok (.ifCond .eq 7, 3) := by decide +kernel
theorem dX10_isOf_47 : decode cX10_isOf 47 = .ok (.iconst 1, 1) := by decide +kernel
theorem dX10_isOf_48 : decode cX10_isOf 48 = .ok (.goto 4, 3) := by decide +kernel
theorem dX10_isOf_51 : decode cX10_isOf 51 = .ok (.iconst 0, 1) := by decide +kernel
theorem dX10_isOf_52 : decode cX10_isOf 52 = .ok (.ireturn, 1) := by decide +kernel
theorem dX10_isOf_53 : decode cX10_isOf 53 = .ok (.aload_n 0, 1) := by decide +kernel
theorem dX10_isOf_54 : decode cX10_isOf 54 = .ok (.iconst 0, 1) := by decide +kernel
theorem dX10_isOf_55 : decode cX10_isOf 55 = .ok (.iload_n 2, 1) := by decide +kernel
theorem dX10_isOf_56 : decode cX10_isOf 56 = .ok (.invokevirtual 97, 3) := by decide +kernel
theorem dX10_isOf_59 : decode cX10_isOf 59 = .ok (.ireturn, 1) := by decide +kernel
theorem dX10_isOf_60 : decode cX10_isOf 60 = .ok (.aload_n 0, 1) := by decide +kernel
theorem dX10_isOf_61 : decode cX10_isOf 61 = .ok (.iconst 1, 1) := by decide +kernel
theorem dX10_isOf_62 : decode cX10_isOf 62 = .ok (.iload_n 2, 1) := by decide +kernel
theorem dX10_isOf_63 : decode cX10_isOf 63 = .ok (.invokevirtual 97, 3) := by decide +kernel
theorem dX10_isOf_66 : decode cX10_isOf 66 = .ok (.ireturn, 1) := by decide +kernel
theorem dX10_isOf_67 : decode cX10_isOf 67 = .ok (.iload_n 1, 1) := by decide +kernel
theorem dX10_isOf_68 : decode cX10_isOf 68 = .ok (.iconst 3, 1) := by decide +kernel
theorem dX10_isOf_69 : decode cX10_isOf 69 = .ok (.if_icmp .ne 7, 3) := by decide +kernel
theorem dX10_isOf_72 : decode cX10_isOf 72 = .ok (.iconst 1, 1) := by decide +kernel
theorem dX10_isOf_73 : decode cX10_isOf 73 = .ok (.goto 4, 3) := by decide +kernel
theorem dX10_isOf_76 : decode cX10_isOf 76 = .ok (.iconst 0, 1) := by decide +kernel
theorem dX10_isOf_77 : decode cX10_isOf 77 = .ok (.ireturn, 1) := by decide +kernel
theorem dX10_event_0 : decode cX10_event 0 = .ok (.iload_n 1, 1) := by decide +kernel
theorem dX10_event_1 : decode cX10_event 1 = .ok (.iconst (-1), 1) := by decide +kernel
theorem dX10_event_2 : decode cX10_event 2 = .ok (.if_icmp .ne 12, 3) := by decide +kernel
theorem dX10_event_5 : decode cX10_event 5 = .ok (.aload_n 0, 1) := by decide +kernel
theorem dX10_event_6 : decode cX10_event 6 = .ok (.getfield 11, 3) := by decide +kernel
theorem dX10_event_9 : decode cX10_event 9 = .ok (.iconst 5, 1) := by decide +kernel
theorem dX10_event_10 : decode cX10_event 10 = .ok (.iconst 0, 1) := by decide +kernel
theorem dX10_event_11 : decode cX10_event 11 = .ok (.iastore, 1) := by decide +kernel
theorem dX10_event_12 : decode cX10_event 12 = .ok (.iconst 0, 1) := by decide +kernel
theorem dX10_event_13 : decode cX10_event 13 = .ok (.ireturn, 1) := by decide +kernel
theorem dX10_event_14 : decode cX10_event 14 = .ok (.aload_n 0, 1) := by decide +kernel
theorem dX10_event_15 : decode cX10_event 15 = .ok (.iload_n 1, 1) := by decide +kernel
theorem dX10_event_16 : decode cX10_event 16 = .ok (.iload_n 2, 1) := by decide +kernel
theorem dX10_event_17 : decode cX10_event 17 = .ok (.invokevirtual 287, 3) := by decide +kernel
theorem dX10_event_20 : decode cX10_event 20 = .ok (.ifCond .ne 5, 3) := by decide +kernel
theorem dX10_event_23 : decode cX10_event 23 = .ok (.iconst (-1), 1) := by decide +kernel
theorem dX10_event_24 : decode cX10_event 24 = .ok (.ireturn, 1) := by decide +kernel
theorem dX10_event_25 : decode cX10_event 25 = .ok (.iload_n 1, 1) := by decide +kernel
theorem dX10_event_26 : decode cX10_event 26 = .ok (.iconst 3, 1) := by decide +kernel
theorem dX10_event_27 : decode cX10_event 27 = .ok (.if_icmp .ne 18, 3) := by decide +kernel
theorem dX10_event_30 : decode cX10_event 30 = .ok (.iload_n 2, 1) := by decide +kernel
theorem dX10_event_31 : decode cX10_event 31 = .ok (.i2l, 1) := by decide +kernel
theorem dX10_event_32 : decode cX10_event 32 = .ok (.lconst 0, 1) := by decide +kernel
theorem dX10_event_33 : decode cX10_event 33 = .ok (.ldc2_w 100, 3) := by decide +kernel
theorem dX10_event_36 : decode cX10_event 36 = .ok (.invokestatic 68, 3) := by decide +kernel
theorem dX10_event_39 : decode cX10_event 39 = .ok (.ifCond .ne 6, 3) := by decide +kernel
theorem dX10_event_42 : decode cX10_event 42 = .ok (.bipush (-2), 2) := by decide +kernel
theorem dX10_event_44 : decode cX10_event 44 = .ok (.ireturn, 1) := by decide +kernel
theorem dX10_event_45 : decode cX10_event 45 = .ok (.aload_n 0, 1) := by decide +kernel
theorem dX10_event_46 : decode cX10_event 46 = .ok (.getfield 11, 3) := by decide +kernel
theorem dX10_event_49 : decode cX10_event 49 = .ok (.iconst 5, 1) := by decide +kernel
theorem dX10_event_50 : decode cX10_event 50 = .ok (.iaload, 1) := by decide +kernel
theorem dX10_event_51 : decode cX10_event 51 = .ok (.bipush 8, 2) := by decide +kernel
theorem dX10_event_53 : decode cX10_event 53 = .ok (.if_icmp .ne 6, 3) := by decide +kernel
theorem dX10_event_56 : decode cX10_event 56 = .ok (.bipush (-4), 2) := by decide +kernel
theorem dX10_event_58 : decode cX10_event 58 = .ok (.ireturn, 1) := by decide +kernel
theorem dX10_event_59 : decode cX10_event 59 = .ok (.aload_n 0, 1) := by decide +kernel
theorem dX10_event_60 : decode cX10_event 60 = .ok (.getfield 11, 3) := by decide +kernel
theorem dX10_event_63 : decode cX10_event 63 = .ok (.bipush 57, 2) := by decide +kernel
theorem dX10_event_65 : decode cX10_event 65 = .ok (.aload_n 0, 1) := by decide +kernel
theorem dX10_event_66 : decode cX10_event 66 = .ok (.getfield 11, 3) := by decide +kernel
theorem dX10_event_69 : decode cX10_event 69 = .ok (.iconst 5, 1) := by decide +kernel
theorem dX10_event_70 : decode cX10_event 70 = .ok (.iaload, 1) := by decide +kernel
theorem dX10_event_71 : decode cX10_event 71 = .ok (.iadd, 1) := by decide +kernel
theorem dX10_event_72 : decode cX10_event 72 = .ok (.bipush 100, 2) := by decide +kernel
theorem dX10_event_74 : decode cX10_event 74 = .ok (.iload_n 1, 1) := by decide +kernel
theorem dX10_event_75 : decode cX10_event 75 = .ok (.imul, 1) := by decide +kernel
theorem dX10_event_76 : decode cX10_event 76 = .ok (.iload_n 2, 1) := by decide +kernel
theorem dX10_event_77 : decode cX10_event 77 = .ok (.iadd, 1) := by decide +kernel
theorem dX10_event_78 : decode cX10_event 78 = .ok (.iastore, 1) := by decide +kernel
theorem dX10_event_79 : decode cX10_event 79 = .ok (.aload_n 0, 1) := by decide +kernel
theorem dX10_event_80 : decode cX10_event 80 = .ok (.getfield 11, 3) := by decide +kernel
theorem dX10_event_83 : decode cX10_event 83 = .ok (.iconst 5, 1) := by decide +kernel
theorem dX10_event_84 : decode cX10_event 84 = .ok (.dup2, 1) := by decide +kernel
theorem dX10_event_85 : decode cX10_event 85 = .ok (.iaload, 1) := by decide +kernel
theorem dX10_event_86 : decode cX10_event 86 = .ok (.iconst 1, 1) := by decide +kernel
theorem dX10_event_87 : decode cX10_event 87 = .ok (.iadd, 1) := by decide +kernel
theorem dX10_event_88 : decode cX10_event 88 = .ok (.iastore, 1) := by decide +kernel
theorem dX10_event_89 : decode cX10_event 89 = .ok (.aload_n 0, 1) := by decide +kernel
theorem dX10_event_90 : decode cX10_event 90 = .ok (.getfield 11, 3) := by decide +kernel
theorem dX10_event_93 : decode cX10_event 93 = .ok (.iconst 5, 1) := by decide +kernel
theorem dX10_event_94 : decode cX10_event 94 = .ok (.iaload, 1) := by decide +kernel
theorem dX10_event_95 : decode cX10_event 95 = .ok (.ireturn, 1) := by decide +kernel
theorem dX10_happens_0 : decode cX10_happens 0 = .ok (.iload_n 1, 1) := by decide +kernel
theorem dX10_happens_1 : decode cX10_happens 1 = .ok (.lookupswitch 76 #[(0, 27), (3, 50)], 27) := by decide +kernel
theorem dX10_happens_28 : decode cX10_happens 28 = .ok (.aload_n 0, 1) := by decide +kernel
theorem dX10_happens_29 : decode cX10_happens 29 = .ok (.getfield 11, 3) := by decide +kernel
theorem dX10_happens_32 : decode cX10_happens 32 = .ok (.bipush 7, 2) := by decide +kernel
theorem dX10_happens_34 : decode cX10_happens 34 = .ok (.iconst 3, 1) := by decide +kernel
theorem dX10_happens_35 : decode cX10_happens 35 = .ok (.iload_n 2, 1) := by decide +kernel
theorem dX10_happens_36 : decode cX10_happens 36 = .ok (.bipush 10, 2) := by decide +kernel
theorem dX10_happens_38 : decode cX10_happens 38 = .ok (.idiv, 1) := by decide +kernel
theorem dX10_happens_39 : decode cX10_happens 39 = .ok (.imul, 1) := by decide +kernel
theorem dX10_happens_40 : decode cX10_happens 40 = .ok (.iadd, 1) := by decide +kernel
theorem dX10_happens_41 : decode cX10_happens 41 = .ok (.iload_n 2, 1) := by decide +kernel
theorem dX10_happens_42 : decode cX10_happens 42 = .ok (.bipush 10, 2) := by decide +kernel
theorem dX10_happens_44 : decode cX10_happens 44 = .ok (.irem, 1) := by decide +kernel
theorem dX10_happens_45 : decode cX10_happens 45 = .ok (.iadd, 1) := by decide +kernel
theorem dX10_happens_46 : decode cX10_happens 46 = .ok (.iconst 0, 1) := by decide +kernel
theorem dX10_happens_47 : decode cX10_happens 47 = .ok (.iastore, 1) := by decide +kernel
theorem dX10_happens_48 : decode cX10_happens 48 = .ok (.goto 59, 3) := by decide +kernel
theorem dX10_happens_51 : decode cX10_happens 51 = .ok (.iconst 0, 1) := by decide +kernel
theorem dX10_happens_52 : decode cX10_happens 52 = .ok (.istore_n 3, 1) := by decide +kernel
theorem dX10_happens_53 : decode cX10_happens 53 = .ok (.iload_n 3, 1) := by decide +kernel
theorem dX10_happens_54 : decode cX10_happens 54 = .ok (.iconst 3, 1) := by decide +kernel
theorem dX10_happens_55 : decode cX10_happens 55 = .ok (.if_icmp .ge 19, 3) := by decide +kernel
theorem dX10_happens_58 : decode cX10_happens 58 = .ok (.aload_n 0, 1) := by decide +kernel
theorem dX10_happens_59 : decode cX10_happens 59 = .ok (.getfield 11, 3) := by decide +kernel
theorem dX10_happens_62 : decode cX10_happens 62 = .ok (.bipush 25, 2) := by decide +kernel
theorem dX10_happens_64 : decode cX10_happens 64 = .ok (.iload_n 3, 1) := by decide +kernel
theorem dX10_happens_65 : decode cX10_happens 65 = .ok (.iadd, 1) := by decide +kernel
theorem dX10_happens_66 : decode cX10_happens 66 = .ok (.iload_n 2, 1) := by decide +kernel
theorem dX10_happens_67 : decode cX10_happens 67 = .ok (.iastore, 1) := by decide +kernel
theorem dX10_happens_68 : decode cX10_happens 68 = .ok (.iinc 3 1, 3) := by decide +kernel
theorem dX10_happens_71 : decode cX10_happens 71 = .ok (.goto (-18), 3) := by decide +kernel
theorem dX10_happens_74 : decode cX10_happens 74 = .ok (.goto 33, 3) := by decide +kernel
theorem dX10_happens_77 : decode cX10_happens 77 = .ok (.bipush 25, 2) := by decide +kernel
theorem dX10_happens_79 : decode cX10_happens 79 = .ok (.iconst 3, 1) := by decide +kernel
theorem dX10_happens_80 : decode cX10_happens 80 = .ok (.iload_n 1, 1) := by decide +kernel
theorem dX10_happens_81 : decode cX10_happens 81 = .ok (.iconst 1, 1) := by decide +kernel
theorem dX10_happens_82 : decode cX10_happens 82 = .ok (.isub, 1) := by decide +kernel
theorem dX10_happens_83 : decode cX10_happens 83 = .ok (.imul, 1) := by decide +kernel
theorem dX10_happens_84 : decode cX10_happens 84 = .ok (.iadd, 1) := by decide +kernel
theorem dX10_happens_85 : decode cX10_happens 85 = .ok (.iload_n 2, 1) := by decide +kernel
theorem dX10_happens_86 : decode cX10_happens 86 = .ok (.iadd, 1) := by decide +kernel
theorem dX10_happens_87 : decode cX10_happens 87 = .ok (.istore_n 3, 1) := by decide +kernel
theorem dX10_happens_88 : decode cX10_happens 88 = .ok (.aload_n 0, 1) := by decide +kernel
theorem dX10_happens_89 : decode cX10_happens 89 = .ok (.getfield 11, 3) := by decide +kernel
theorem dX10_happens_92 : decode cX10_happens 92 = .ok (.iload_n 3, 1) := by decide +kernel
theorem dX10_happens_93 : decode cX10_happens 93 = .ok (.bipush 60, 2) := by decide +kernel
theorem dX10_happens_95 : decode cX10_happens 95 = .ok (.aload_n 0, 1) := by decide +kernel
theorem dX10_happens_96 : decode cX10_happens 96 = .ok (.getfield 11, 3) := by decide +kernel
theorem dX10_happens_99 : decode cX10_happens 99 = .ok (.iload_n 3, 1) := by decide +kernel
theorem dX10_happens_100 : decode cX10_happens 100 = .ok (.iaload, 1) := by decide +kernel
theorem dX10_happens_101 : decode cX10_happens 101 = .ok (.iconst 1, 1) := by decide +kernel
theorem dX10_happens_102 : decode cX10_happens 102 = .ok (.iadd, 1) := by decide +kernel
theorem dX10_happens_103 : decode cX10_happens 103 = .ok (.invokestatic 290, 3) := by decide +kernel
theorem dX10_happens_106 : decode cX10_happens 106 = .ok (.iastore, 1) := by decide +kernel
theorem dX10_happens_107 : decode cX10_happens 107 = .ok (.return_, 1) := by decide +kernel
theorem dX10_after_0 : decode cX10_after 0 = .ok (.iload_n 1, 1) := by decide +kernel
theorem dX10_after_1 : decode cX10_after 1 = .ok (.i2l, 1) := by decide +kernel
theorem dX10_after_2 : decode cX10_after 2 = .ok (.lconst 0, 1) := by decide +kernel
theorem dX10_after_3 : decode cX10_after 3 = .ok (.ldc2_w 76, 3) := by decide +kernel
theorem dX10_after_6 : decode cX10_after 6 = .ok (.invokestatic 68, 3) := by decide +kernel
theorem dX10_after_9 : decode cX10_after 9 = .ok (.ifCond .ne 7, 3) := by decide +kernel
theorem dX10_after_12 : decode cX10_after 12 = .ok (.ldc2_w 190, 3) := by decide +kernel
theorem dX10_after_15 : decode cX10_after 15 = .ok (.lreturn, 1) := by decide +kernel
theorem dX10_after_16 : decode cX10_after 16 = .ok (.aload_n 0, 1) := by decide +kernel
theorem dX10_after_17 : decode cX10_after 17 = .ok (.invokevirtual 273, 3) := by decide +kernel
theorem dX10_after_20 : decode cX10_after 20 = .ok (.iconst 0, 1) := by decide +kernel
theorem dX10_after_21 : decode cX10_after 21 = .ok (.istore_n 2, 1) := by decide +kernel
theorem dX10_after_22 : decode cX10_after 22 = .ok (.iload_n 2, 1) := by decide +kernel
theorem dX10_after_23 : decode cX10_after 23 = .ok (.aload_n 0, 1) := by decide +kernel
theorem dX10_after_24 : decode cX10_after 24 = .ok (.getfield 11, 3) := by decide +kernel
theorem dX10_after_27 : decode cX10_after 27 = .ok (.iconst 5, 1) := by decide +kernel
theorem dX10_after_28 : decode cX10_after 28 = .ok (.iaload, 1) := by decide +kernel
theorem dX10_after_29 : decode cX10_after 29 = .ok (.if_icmp .ge 37, 3) := by decide +kernel
theorem dX10_after_32 : decode cX10_after 32 = .ok (.aload_n 0, 1) := by decide +kernel
theorem dX10_after_33 : decode cX10_after 33 = .ok (.aload_n 0, 1) := by decide +kernel
theorem dX10_after_34 : decode cX10_after 34 = .ok (.getfield 11, 3) := by decide +kernel
theorem dX10_after_37 : decode cX10_after 37 = .ok (.bipush 57, 2) := by decide +kernel
theorem dX10_after_39 : decode cX10_after 39 = .ok (.iload_n 2, 1) := by decide +kernel
theorem dX10_after_40 : decode cX10_after 40 = .ok (.iadd, 1) := by decide +kernel
theorem dX10_after_41 : decode cX10_after 41 = .ok (.iaload, 1) := by decide +kernel
theorem dX10_after_42 : decode cX10_after 42 = .ok (.bipush 100, 2) := by decide +kernel
theorem dX10_after_44 : decode cX10_after 44 = .ok (.idiv, 1) := by decide +kernel
theorem dX10_after_45 : decode cX10_after 45 = .ok (.aload_n 0, 1) := by decide +kernel
theorem dX10_after_46 : decode cX10_after 46 = .ok (.getfield 11, 3) := by decide +kernel
theorem dX10_after_49 : decode cX10_after 49 = .ok (.bipush 57, 2) := by decide +kernel
theorem dX10_after_51 : decode cX10_after 51 = .ok (.iload_n 2, 1) := by decide +kernel
theorem dX10_after_52 : decode cX10_after 52 = .ok (.iadd, 1) := by decide +kernel
theorem dX10_after_53 : decode cX10_after 53 = .ok (.iaload, 1) := by decide +kernel
theorem dX10_after_54 : decode cX10_after 54 = .ok (.bipush 100, 2) := by decide +kernel
theorem dX10_after_56 : decode cX10_after 56 = .ok (.irem, 1) := by decide +kernel
theorem dX10_after_57 : decode cX10_after 57 = .ok (.invokevirtual 295, 3) := by decide +kernel
theorem dX10_after_60 : decode cX10_after 60 = .ok (.iinc 2 1, 3) := by decide +kernel
theorem dX10_after_63 : decode cX10_after 63 = .ok (.goto (-41), 3) := by decide +kernel
theorem dX10_after_66 : decode cX10_after 66 = .ok (.iload_n 1, 1) := by decide +kernel
theorem dX10_after_67 : decode cX10_after 67 = .ok (.ifCond .ne 10, 3) := by decide +kernel
theorem dX10_after_70 : decode cX10_after 70 = .ok (.aload_n 0, 1) := by decide +kernel
theorem dX10_after_71 : decode cX10_after 71 = .ok (.invokevirtual 223, 3) := by decide +kernel
theorem dX10_after_74 : decode cX10_after 74 = .ok (.goto 19, 3) := by decide +kernel
theorem dX10_after_77 : decode cX10_after 77 = .ok (.iload_n 1, 1) := by decide +kernel
theorem dX10_after_78 : decode cX10_after 78 = .ok (.iconst 1, 1) := by decide +kernel
theorem dX10_after_79 : decode cX10_after 79 = .ok (.if_icmp .ne 10, 3) := by decide +kernel
theorem dX10_after_82 : decode cX10_after 82 = .ok (.aload_n 0, 1) := by decide +kernel
theorem dX10_after_83 : decode cX10_after 83 = .ok (.invokevirtual 214, 3) := by decide +kernel
theorem dX10_after_86 : decode cX10_after 86 = .ok (.goto 7, 3) := by decide +kernel
theorem dX10_after_89 : decode cX10_after 89 = .ok (.aload_n 0, 1) := by decide +kernel
theorem dX10_after_90 : decode cX10_after 90 = .ok (.invokevirtual 211, 3) := by decide +kernel
theorem dX10_after_93 : decode cX10_after 93 = .ok (.istore_n 2, 1) := by decide +kernel
theorem dX10_after_94 : decode cX10_after 94 = .ok (.aload_n 0, 1) := by decide +kernel
theorem dX10_after_95 : decode cX10_after 95 = .ok (.invokevirtual 282, 3) := by decide +kernel
theorem dX10_after_98 : decode cX10_after 98 = .ok (.iload_n 2, 1) := by decide +kernel
theorem dX10_after_99 : decode cX10_after 99 = .ok (.i2l, 1) := by decide +kernel
theorem dX10_after_100 : decode cX10_after 100 = .ok (.lreturn, 1) := by decide +kernel
theorem dX10_book_0 : decode cX10_book 0 = .ok (.aload_n 0, 1) := by decide +kernel
theorem dX10_book_1 : decode cX10_book 1 = .ok (.bipush 6, 2) := by decide +kernel
theorem dX10_book_3 : decode cX10_book 3 = .ok (.bipush 65, 2) := by decide +kernel
theorem dX10_book_5 : decode cX10_book 5 = .ok (.bipush 8, 2) := by decide +kernel
theorem dX10_book_7 : decode cX10_book 7 = .ok (.iload_n 1, 1) := by decide +kernel
theorem dX10_book_8 : decode cX10_book 8 = .ok (.iload_n 2, 1) := by decide +kernel
theorem dX10_book_9 : decode cX10_book 9 = .ok (.iload_n 3, 1) := by decide +kernel
theorem dX10_book_10 : decode cX10_book 10 = .ok (.invokevirtual 269, 3) := by decide +kernel
theorem dX10_book_13 : decode cX10_book 13 = .ok (.ireturn, 1) := by decide +kernel
theorem dX10_looked_0 : decode cX10_looked 0 = .ok (.aload_n 0, 1) := by decide +kernel
theorem dX10_looked_1 : decode cX10_looked 1 = .ok (.invokevirtual 253, 3) := by decide +kernel
theorem dX10_looked_4 : decode cX10_looked 4 = .ok (.ifCond .eq 14, 3) := by decide +kernel
theorem dX10_looked_7 : decode cX10_looked 7 = .ok (.aload_n 0, 1) := by decide +kernel
theorem dX10_looked_8 : decode cX10_looked 8 = .ok (.bipush 6, 2) := by decide +kernel
theorem dX10_looked_10 : decode cX10_looked 10 = .ok (.bipush 65, 2) := by decide +kernel
theorem dX10_looked_12 : decode cX10_looked 12 = .ok (.invokevirtual 279, 3) := by decide +kernel
theorem dX10_looked_15 : decode cX10_looked 15 = .ok (.goto 5, 3) := by decide +kernel
theorem dX10_looked_18 : decode cX10_looked 18 = .ok (.bipush (-6), 2) := by decide +kernel
theorem dX10_looked_20 : decode cX10_looked 20 = .ok (.ireturn, 1) := by decide +kernel
theorem dX10_cells_0 : decode cX10_cells 0 = .ok (.aload_n 0, 1) := by decide +kernel
theorem dX10_cells_1 : decode cX10_cells 1 = .ok (.getfield 11, 3) := by decide +kernel
theorem dX10_cells_4 : decode cX10_cells 4 = .ok (.iconst 0, 1) := by decide +kernel
theorem dX10_cells_5 : decode cX10_cells 5 = .ok (.iaload, 1) := by decide +kernel
theorem dX10_cells_6 : decode cX10_cells 6 = .ok (.aload_n 0, 1) := by decide +kernel
theorem dX10_cells_7 : decode cX10_cells 7 = .ok (.getfield 11, 3) := by decide +kernel
theorem dX10_cells_10 : decode cX10_cells 10 = .ok (.iconst 1, 1) := by decide +kernel
theorem dX10_cells_11 : decode cX10_cells 11 = .ok (.iaload, 1) := by decide +kernel
theorem dX10_cells_12 : decode cX10_cells 12 = .ok (.imul, 1) := by decide +kernel
theorem dX10_cells_13 : decode cX10_cells 13 = .ok (.ireturn, 1) := by decide +kernel
theorem dX10_image_0 : decode cX10_image 0 = .ok (.aload_n 0, 1) := by decide +kernel
theorem dX10_image_1 : decode cX10_image 1 = .ok (.getfield 11, 3) := by decide +kernel
theorem dX10_image_4 : decode cX10_image 4 = .ok (.iconst 0, 1) := by decide +kernel
theorem dX10_image_5 : decode cX10_image 5 = .ok (.aload_n 0, 1) := by decide +kernel
theorem dX10_image_6 : decode cX10_image 6 = .ok (.getfield 15, 3) := by decide +kernel
theorem dX10_image_9 : decode cX10_image 9 = .ok (.iconst 0, 1) := by decide +kernel
theorem dX10_image_10 : decode cX10_image 10 = .ok (.bipush 73, 2) := by decide +kernel
theorem dX10_image_12 : decode cX10_image 12 = .ok (.invokestatic 177, 3) := by decide +kernel
theorem dX10_image_15 : decode cX10_image 15 = .ok (.aload_n 0, 1) := by decide +kernel
theorem dX10_image_16 : decode cX10_image 16 = .ok (.iconst 1, 1) := by decide +kernel
theorem dX10_image_17 : decode cX10_image 17 = .ok (.putfield 299, 3) := by decide +kernel
theorem dX10_image_20 : decode cX10_image 20 = .ok (.aload_n 0, 1) := by decide +kernel
theorem dX10_image_21 : decode cX10_image 21 = .ok (.invokevirtual 303, 3) := by decide +kernel
theorem dX10_image_24 : decode cX10_image 24 = .ok (.ireturn, 1) := by decide +kernel
theorem dX10_undo_0 : decode cX10_undo 0 = .ok (.aload_n 0, 1) := by decide +kernel
theorem dX10_undo_1 : decode cX10_undo 1 = .ok (.getfield 299, 3) := by decide +kernel
theorem dX10_undo_4 : decode cX10_undo 4 = .ok (.ifCond .ne 6, 3) := by decide +kernel
theorem dX10_undo_7 : decode cX10_undo 7 = .ok (.bipush (-3), 2) := by decide +kernel
theorem dX10_undo_9 : decode cX10_undo 9 = .ok (.ireturn, 1) := by decide +kernel
theorem dX10_undo_10 : decode cX10_undo 10 = .ok (.aload_n 0, 1) := by decide +kernel
theorem dX10_undo_11 : decode cX10_undo 11 = .ok (.getfield 15, 3) := by decide +kernel
theorem dX10_undo_14 : decode cX10_undo 14 = .ok (.iconst 0, 1) := by decide +kernel
theorem dX10_undo_15 : decode cX10_undo 15 = .ok (.aload_n 0, 1) := by decide +kernel
theorem dX10_undo_16 : decode cX10_undo 16 = .ok (.getfield 11, 3) := by decide +kernel
theorem dX10_undo_19 : decode cX10_undo 19 = .ok (.iconst 0, 1) := by decide +kernel
theorem dX10_undo_20 : decode cX10_undo 20 = .ok (.bipush 73, 2) := by decide +kernel
theorem dX10_undo_22 : decode cX10_undo 22 = .ok (.invokestatic 177, 3) := by decide +kernel
theorem dX10_undo_25 : decode cX10_undo 25 = .ok (.aload_n 0, 1) := by decide +kernel
theorem dX10_undo_26 : decode cX10_undo 26 = .ok (.invokevirtual 303, 3) := by decide +kernel
theorem dX10_undo_29 : decode cX10_undo 29 = .ok (.ireturn, 1) := by decide +kernel
theorem dX10_count_0 : decode cX10_count 0 = .ok (.iload_n 1, 1) := by decide +kernel
theorem dX10_count_1 : decode cX10_count 1 = .ok (.tableswitch 58 0 3 #[31, 38, 45, 53], 31) := by decide +kernel
theorem dX10_count_32 : decode cX10_count 32 = .ok (.aload_n 0, 1) := by decide +kernel
theorem dX10_count_33 : decode cX10_count 33 = .ok (.getfield 11, 3) := by decide +kernel
theorem dX10_count_36 : decode cX10_count 36 = .ok (.iconst 4, 1) := by decide +kernel
theorem dX10_count_37 : decode cX10_count 37 = .ok (.iaload, 1) := by decide +kernel
theorem dX10_count_38 : decode cX10_count 38 = .ok (.ireturn, 1) := by decide +kernel
theorem dX10_count_39 : decode cX10_count 39 = .ok (.aload_n 0, 1) := by decide +kernel
theorem dX10_count_40 : decode cX10_count 40 = .ok (.getfield 11, 3) := by decide +kernel
theorem dX10_count_43 : decode cX10_count 43 = .ok (.iconst 5, 1) := by decide +kernel
theorem dX10_count_44 : decode cX10_count 44 = .ok (.iaload, 1) := by decide +kernel
theorem dX10_count_45 : decode cX10_count 45 = .ok (.ireturn, 1) := by decide +kernel
theorem dX10_count_46 : decode cX10_count 46 = .ok (.aload_n 0, 1) := by decide +kernel
theorem dX10_count_47 : decode cX10_count 47 = .ok (.getfield 11, 3) := by decide +kernel
theorem dX10_count_50 : decode cX10_count 50 = .ok (.bipush 6, 2) := by decide +kernel
theorem dX10_count_52 : decode cX10_count 52 = .ok (.iaload, 1) := by decide +kernel
theorem dX10_count_53 : decode cX10_count 53 = .ok (.ireturn, 1) := by decide +kernel
theorem dX10_count_54 : decode cX10_count 54 = .ok (.aload_n 0, 1) := by decide +kernel
theorem dX10_count_55 : decode cX10_count 55 = .ok (.getfield 107, 3) := by decide +kernel
theorem dX10_count_58 : decode cX10_count 58 = .ok (.ireturn, 1) := by decide +kernel
theorem dX10_count_59 : decode cX10_count 59 = .ok (.bipush (-2), 2) := by decide +kernel
theorem dX10_count_61 : decode cX10_count 61 = .ok (.ireturn, 1) := by decide +kernel
theorem dX10_isTape_0 : decode cX10_isTape 0 = .ok (.iload_n 0, 1) := by decide +kernel
theorem dX10_isTape_1 : decode cX10_isTape 1 = .ok (.i2l, 1) := by decide +kernel
theorem dX10_isTape_2 : decode cX10_isTape 2 = .ok (.lconst 0, 1) := by decide +kernel
theorem dX10_isTape_3 : decode cX10_isTape 3 = .ok (.ldc2_w 306, 3) := by decide +kernel
theorem dX10_isTape_6 : decode cX10_isTape 6 = .ok (.invokestatic 68, 3) := by decide +kernel
theorem dX10_isTape_9 : decode cX10_isTape 9 = .ok (.ireturn, 1) := by decide +kernel
theorem dX10_tape_0 : decode cX10_tape 0 = .ok (.iload_n 1, 1) := by decide +kernel
theorem dX10_tape_1 : decode cX10_tape 1 = .ok (.invokestatic 308, 3) := by decide +kernel
theorem dX10_tape_4 : decode cX10_tape 4 = .ok (.ifCond .ne 5, 3) := by decide +kernel
theorem dX10_tape_7 : decode cX10_tape 7 = .ok (.iconst (-1), 1) := by decide +kernel
theorem dX10_tape_8 : decode cX10_tape 8 = .ok (.ireturn, 1) := by decide +kernel
theorem dX10_tape_9 : decode cX10_tape 9 = .ok (.iload_n 2, 1) := by decide +kernel
theorem dX10_tape_10 : decode cX10_tape 10 = .ok (.i2l, 1) := by decide +kernel
theorem dX10_tape_11 : decode cX10_tape 11 = .ok (.ldc2_w 311, 3) := by decide +kernel
theorem dX10_tape_14 : decode cX10_tape 14 = .ok (.ldc2_w 313, 3) := by decide +kernel
theorem dX10_tape_17 : decode cX10_tape 17 = .ok (.invokestatic 68, 3) := by decide +kernel
theorem dX10_tape_20 : decode cX10_tape 20 = .ok (.ifCond .eq 14, 3) := by decide +kernel
theorem dX10_tape_23 : decode cX10_tape 23 = .ok (.iload_n 2, 1) := by decide +kernel
theorem dX10_tape_24 : decode cX10_tape 24 = .ok (.iconst (-1), 1) := by decide +kernel
theorem dX10_tape_25 : decode cX10_tape 25 = .ok (.if_icmp .eq 12, 3) := by decide +kernel
theorem dX10_tape_28 : decode cX10_tape 28 = .ok (.iload_n 3, 1) := by decide +kernel
theorem dX10_tape_29 : decode cX10_tape 29 = .ok (.bipush 60, 2) := by decide +kernel
theorem dX10_tape_31 : decode cX10_tape 31 = .ok (.if_icmp .le 6, 3) := by decide +kernel
theorem dX10_tape_34 : decode cX10_tape 34 = .ok (.bipush (-2), 2) := by decide +kernel
theorem dX10_tape_36 : decode cX10_tape 36 = .ok (.ireturn, 1) := by decide +kernel
theorem dX10_tape_37 : decode cX10_tape 37 = .ok (.iload_n 2, 1) := by decide +kernel
theorem dX10_tape_38 : decode cX10_tape 38 = .ok (.iconst (-1), 1) := by decide +kernel
theorem dX10_tape_39 : decode cX10_tape 39 = .ok (.if_icmp .eq 10, 3) := by decide +kernel
theorem dX10_tape_42 : decode cX10_tape 42 = .ok (.iload_n 3, 1) := by decide +kernel
theorem dX10_tape_43 : decode cX10_tape 43 = .ok (.ifCond .ge 6, 3) := by decide +kernel
theorem dX10_tape_46 : decode cX10_tape 46 = .ok (.bipush (-14), 2) := by decide +kernel
theorem dX10_tape_48 : decode cX10_tape 48 = .ok (.ireturn, 1) := by decide +kernel
theorem dX10_tape_49 : decode cX10_tape 49 = .ok (.aload_n 0, 1) := by decide +kernel
theorem dX10_tape_50 : decode cX10_tape 50 = .ok (.getfield 52, 3) := by decide +kernel
theorem dX10_tape_53 : decode cX10_tape 53 = .ok (.iload_n 1, 1) := by decide +kernel
theorem dX10_tape_54 : decode cX10_tape 54 = .ok (.iload_n 2, 1) := by decide +kernel
theorem dX10_tape_55 : decode cX10_tape 55 = .ok (.iastore, 1) := by decide +kernel
theorem dX10_tape_56 : decode cX10_tape 56 = .ok (.aload_n 0, 1) := by decide +kernel
theorem dX10_tape_57 : decode cX10_tape 57 = .ok (.getfield 55, 3) := by decide +kernel
theorem dX10_tape_60 : decode cX10_tape 60 = .ok (.iload_n 1, 1) := by decide +kernel
theorem dX10_tape_61 : decode cX10_tape 61 = .ok (.iload_n 2, 1) := by decide +kernel
theorem dX10_tape_62 : decode cX10_tape 62 = .ok (.iconst (-1), 1) := by decide +kernel
theorem dX10_tape_63 : decode cX10_tape 63 = .ok (.if_icmp .ne 7, 3) := by decide +kernel
theorem dX10_tape_66 : decode cX10_tape 66 = .ok (.iconst 0, 1) := by decide +kernel
theorem dX10_tape_67 : decode cX10_tape 67 = .ok (.goto 4, 3) := by decide +kernel
theorem dX10_tape_70 : decode cX10_tape 70 = .ok (.iload_n 3, 1) := by decide +kernel
theorem dX10_tape_71 : decode cX10_tape 71 = .ok (.iastore, 1) := by decide +kernel
theorem dX10_tape_72 : decode cX10_tape 72 = .ok (.iconst 0, 1) := by decide +kernel
theorem dX10_tape_73 : decode cX10_tape 73 = .ok (.istore 4, 2) := by decide +kernel
theorem dX10_tape_75 : decode cX10_tape 75 = .ok (.iload 4, 2) := by decide +kernel
theorem dX10_tape_77 : decode cX10_tape 77 = .ok (.aload_n 0, 1) := by decide +kernel
theorem dX10_tape_78 : decode cX10_tape 78 = .ok (.getfield 55, 3) := by decide +kernel
theorem dX10_tape_81 : decode cX10_tape 81 = .ok (.iload_n 1, 1) := by decide +kernel
theorem dX10_tape_82 : decode cX10_tape 82 = .ok (.iaload, 1) := by decide +kernel
theorem dX10_tape_83 : decode cX10_tape 83 = .ok (.if_icmp .ge 22, 3) := by decide +kernel
theorem dX10_tape_86 : decode cX10_tape 86 = .ok (.aload_n 0, 1) := by decide +kernel
theorem dX10_tape_87 : decode cX10_tape 87 = .ok (.getfield 58, 3) := by decide +kernel
theorem dX10_tape_90 : decode cX10_tape 90 = .ok (.bipush 60, 2) := by decide +kernel
theorem dX10_tape_92 : decode cX10_tape 92 = .ok (.iload_n 1, 1) := by decide +kernel
theorem dX10_tape_93 : decode cX10_tape 93 = .ok (.imul, 1) := by decide +kernel
theorem dX10_tape_94 : decode cX10_tape 94 = .ok (.iload 4, 2) := by decide +kernel
theorem dX10_tape_96 : decode cX10_tape 96 = .ok (.iadd, 1) := by decide +kernel
theorem dX10_tape_97 : decode cX10_tape 97 = .ok (.lconst 0, 1) := by decide +kernel
theorem dX10_tape_98 : decode cX10_tape 98 = .ok (.lastore, 1) := by decide +kernel
theorem dX10_tape_99 : decode cX10_tape 99 = .ok (.iinc 4 1, 3) := by decide +kernel
theorem dX10_tape_102 : decode cX10_tape 102 = .ok (.goto (-27), 3) := by decide +kernel
theorem dX10_tape_105 : decode cX10_tape 105 = .ok (.iconst 1, 1) := by decide +kernel
theorem dX10_tape_106 : decode cX10_tape 106 = .ok (.ireturn, 1) := by decide +kernel
theorem dX10_asItem_0 : decode cX10_asItem 0 = .ok (.iload_n 0, 1) := by decide +kernel
theorem dX10_asItem_1 : decode cX10_asItem 1 = .ok (.tableswitch 47 0 3 #[31, 36, 41, 45], 31) := by decide +kernel
theorem dX10_asItem_32 : decode cX10_asItem 32 = .ok (.lload_n 1, 1) := by decide +kernel
theorem dX10_asItem_33 : decode cX10_asItem 33 = .ok (.l2i, 1) := by decide +kernel
theorem dX10_asItem_34 : decode cX10_asItem 34 = .ok (.i2b, 1) := by decide +kernel
theorem dX10_asItem_35 : decode cX10_asItem 35 = .ok (.i2l, 1) := by decide +kernel
theorem dX10_asItem_36 : decode cX10_asItem 36 = .ok (.lreturn, 1) := by decide +kernel
theorem dX10_asItem_37 : decode cX10_asItem 37 = .ok (.lload_n 1, 1) := by decide +kernel
theorem dX10_asItem_38 : decode cX10_asItem 38 = .ok (.l2i, 1) := by decide +kernel
theorem dX10_asItem_39 : decode cX10_asItem 39 = .ok (.i2s, 1) := by decide +kernel
theorem dX10_asItem_40 : decode cX10_asItem 40 = .ok (.i2l, 1) := by decide +kernel
theorem dX10_asItem_41 : decode cX10_asItem 41 = .ok (.lreturn, 1) := by decide +kernel
theorem dX10_asItem_42 : decode cX10_asItem 42 = .ok (.lload_n 1, 1) := by decide +kernel
theorem dX10_asItem_43 : decode cX10_asItem 43 = .ok (.l2i, 1) := by decide +kernel
theorem dX10_asItem_44 : decode cX10_asItem 44 = .ok (.i2l, 1) := by decide +kernel
theorem dX10_asItem_45 : decode cX10_asItem 45 = .ok (.lreturn, 1) := by decide +kernel
theorem dX10_asItem_46 : decode cX10_asItem 46 = .ok (.lload_n 1, 1) := by decide +kernel
theorem dX10_asItem_47 : decode cX10_asItem 47 = .ok (.lreturn, 1) := by decide +kernel
theorem dX10_asItem_48 : decode cX10_asItem 48 = .ok (.lload_n 1, 1) := by decide +kernel
theorem dX10_asItem_49 : decode cX10_asItem 49 = .ok (.lconst 0, 1) := by decide +kernel
theorem dX10_asItem_50 : decode cX10_asItem 50 = .ok (.lcmp, 1) := by decide +kernel
theorem dX10_asItem_51 : decode cX10_asItem 51 = .ok (.ifCond .ne 7, 3) := by decide +kernel
theorem dX10_asItem_54 : decode cX10_asItem 54 = .ok (.lconst 0, 1) := by decide +kernel
theorem dX10_asItem_55 : decode cX10_asItem 55 = .ok (.goto 4, 3) := by decide +kernel
theorem dX10_asItem_58 : decode cX10_asItem 58 = .ok (.lconst 1, 1) := by decide +kernel
theorem dX10_asItem_59 : decode cX10_asItem 59 = .ok (.lreturn, 1) := by decide +kernel
theorem dX10_hasItem_0 : decode cX10_hasItem 0 = .ok (.aload_n 0, 1) := by decide +kernel
theorem dX10_hasItem_1 : decode cX10_hasItem 1 = .ok (.getfield 52, 3) := by decide +kernel
theorem dX10_hasItem_4 : decode cX10_hasItem 4 = .ok (.iload_n 1, 1) := by decide +kernel
theorem dX10_hasItem_5 : decode cX10_hasItem 5 = .ok (.iaload, 1) := by decide +kernel
theorem dX10_hasItem_6 : decode cX10_hasItem 6 = .ok (.iconst (-1), 1) := by decide +kernel
theorem dX10_hasItem_7 : decode cX10_hasItem 7 = .ok (.if_icmp .eq 25, 3) := by decide +kernel
theorem dX10_hasItem_10 : decode cX10_hasItem 10 = .ok (.iload_n 2, 1) := by decide +kernel
theorem dX10_hasItem_11 : decode cX10_hasItem 11 = .ok (.i2l, 1) := by decide +kernel
theorem dX10_hasItem_12 : decode cX10_hasItem 12 = .ok (.lconst 0, 1) := by decide +kernel
theorem dX10_hasItem_13 : decode cX10_hasItem 13 = .ok (.aload_n 0, 1) := by decide +kernel
theorem dX10_hasItem_14 : decode cX10_hasItem 14 = .ok (.getfield 55, 3) := by decide +kernel
theorem dX10_hasItem_17 : decode cX10_hasItem 17 = .ok (.iload_n 1, 1) := by decide +kernel
theorem dX10_hasItem_18 : decode cX10_hasItem 18 = .ok (.iaload, 1) := by decide +kernel
theorem dX10_hasItem_19 : decode cX10_hasItem 19 = .ok (.iconst 1, 1) := by decide +kernel
theorem dX10_hasItem_20 : decode cX10_hasItem 20 = .ok (.isub, 1) := by decide +kernel
theorem dX10_hasItem_21 : decode cX10_hasItem 21 = .ok (.i2l, 1) := by decide +kernel
theorem dX10_hasItem_22 : decode cX10_hasItem 22 = .ok (.invokestatic 68, 3) := by decide +kernel
theorem dX10_hasItem_25 : decode cX10_hasItem 25 = .ok (.ifCond .eq 7, 3) := by decide +kernel
theorem dX10_hasItem_28 : decode cX10_hasItem 28 = .ok (.iconst 1, 1) := by decide +kernel
theorem dX10_hasItem_29 : decode cX10_hasItem 29 = .ok (.goto 4, 3) := by decide +kernel
theorem dX10_hasItem_32 : decode cX10_hasItem 32 = .ok (.iconst 0, 1) := by decide +kernel
theorem dX10_hasItem_33 : decode cX10_hasItem 33 = .ok (.ireturn, 1) := by decide +kernel
theorem dX10_item_0 : decode cX10_item 0 = .ok (.iload_n 1, 1) := by decide +kernel
theorem dX10_item_1 : decode cX10_item 1 = .ok (.invokestatic 308, 3) := by decide +kernel
theorem dX10_item_4 : decode cX10_item 4 = .ok (.ifCond .ne 5, 3) := by decide +kernel
theorem dX10_item_7 : decode cX10_item 7 = .ok (.iconst (-1), 1) := by decide +kernel
theorem dX10_item_8 : decode cX10_item 8 = .ok (.ireturn, 1) := by decide +kernel
theorem dX10_item_9 : decode cX10_item 9 = .ok (.aload_n 0, 1) := by decide +kernel
theorem dX10_item_10 : decode cX10_item 10 = .ok (.getfield 52, 3) := by decide +kernel
theorem dX10_item_13 : decode cX10_item 13 = .ok (.iload_n 1, 1) := by decide +kernel
theorem dX10_item_14 : decode cX10_item 14 = .ok (.iaload, 1) := by decide +kernel
theorem dX10_item_15 : decode cX10_item 15 = .ok (.iconst (-1), 1) := by decide +kernel
theorem dX10_item_16 : decode cX10_item 16 = .ok (.if_icmp .ne 6, 3) := by decide +kernel
theorem dX10_item_19 : decode cX10_item 19 = .ok (.bipush (-11), 2) := by decide +kernel
theorem dX10_item_21 : decode cX10_item 21 = .ok (.ireturn, 1) := by decide +kernel
theorem dX10_item_22 : decode cX10_item 22 = .ok (.aload_n 0, 1) := by decide +kernel
theorem dX10_item_23 : decode cX10_item 23 = .ok (.iload_n 1, 1) := by decide +kernel
theorem dX10_item_24 : decode cX10_item 24 = .ok (.iload_n 2, 1) := by decide +kernel
theorem dX10_item_25 : decode cX10_item 25 = .ok (.invokevirtual 315, 3) := by decide +kernel
theorem dX10_item_28 : decode cX10_item 28 = .ok (.ifCond .ne 6, 3) := by decide +kernel
theorem dX10_item_31 : decode cX10_item 31 = .ok (.bipush (-13), 2) := by decide +kernel
theorem dX10_item_33 : decode cX10_item 33 = .ok (.ireturn, 1) := by decide +kernel
theorem dX10_item_34 : decode cX10_item 34 = .ok (.aload_n 0, 1) := by decide +kernel
theorem dX10_item_35 : decode cX10_item 35 = .ok (.getfield 58, 3) := by decide +kernel
theorem dX10_item_38 : decode cX10_item 38 = .ok (.bipush 60, 2) := by decide +kernel
theorem dX10_item_40 : decode cX10_item 40 = .ok (.iload_n 1, 1) := by decide +kernel
theorem dX10_item_41 : decode cX10_item 41 = .ok (.imul, 1) := by decide +kernel
theorem dX10_item_42 : decode cX10_item 42 = .ok (.iload_n 2, 1) := by decide +kernel
theorem dX10_item_43 : decode cX10_item 43 = .ok (.iadd, 1) := by decide +kernel
theorem dX10_item_44 : decode cX10_item 44 = .ok (.aload_n 0, 1) := by decide +kernel
theorem dX10_item_45 : decode cX10_item 45 = .ok (.getfield 52, 3) := by decide +kernel
theorem dX10_item_48 : decode cX10_item 48 = .ok (.iload_n 1, 1) := by decide +kernel
theorem dX10_item_49 : decode cX10_item 49 = .ok (.iaload, 1) := by decide +kernel
theorem dX10_item_50 : decode cX10_item 50 = .ok (.lload_n 3, 1) := by decide +kernel
theorem dX10_item_51 : decode cX10_item 51 = .ok (.invokestatic 318, 3) := by decide +kernel
theorem dX10_item_54 : decode cX10_item 54 = .ok (.lastore, 1) := by decide +kernel
theorem dX10_item_55 : decode cX10_item 55 = .ok (.iconst 1, 1) := by decide +kernel
theorem dX10_item_56 : decode cX10_item 56 = .ok (.ireturn, 1) := by decide +kernel
theorem dX10_peek_0 : decode cX10_peek 0 = .ok (.iload_n 1, 1) := by decide +kernel
theorem dX10_peek_1 : decode cX10_peek 1 = .ok (.invokestatic 308, 3) := by decide +kernel
theorem dX10_peek_4 : decode cX10_peek 4 = .ok (.ifCond .eq 26, 3) := by decide +kernel
theorem dX10_peek_7 : decode cX10_peek 7 = .ok (.aload_n 0, 1) := by decide +kernel
theorem dX10_peek_8 : decode cX10_peek 8 = .ok (.iload_n 1, 1) := by decide +kernel
theorem dX10_peek_9 : decode cX10_peek 9 = .ok (.iload_n 2, 1) := by decide +kernel
theorem dX10_peek_10 : decode cX10_peek 10 = .ok (.invokevirtual 315, 3) := by decide +kernel
theorem dX10_peek_13 : decode cX10_peek 13 = .ok (.ifCond .eq 17, 3) := by decide +kernel
theorem dX10_peek_16 : decode cX10_peek 16 = .ok (.aload_n 0, 1) := by decide +kernel
theorem dX10_peek_17 : decode cX10_peek 17 = .ok (.getfield 58, 3) := by decide +kernel
theorem dX10_peek_20 : decode cX10_peek 20 = .ok (.bipush 60, 2) := by decide +kernel
theorem dX10_peek_22 : decode cX10_peek 22 = .ok (.iload_n 1, 1) := by decide +kernel
theorem dX10_peek_23 : decode cX10_peek 23 = .ok (.imul, 1) := by decide +kernel
theorem dX10_peek_24 : decode cX10_peek 24 = .ok (.iload_n 2, 1) := by decide +kernel
theorem dX10_peek_25 : decode cX10_peek 25 = .ok (.iadd, 1) := by decide +kernel
theorem dX10_peek_26 : decode cX10_peek 26 = .ok (.laload, 1) := by decide +kernel
theorem dX10_peek_27 : decode cX10_peek 27 = .ok (.goto 6, 3) := by decide +kernel
theorem dX10_peek_30 : decode cX10_peek 30 = .ok (.ldc2_w 190, 3) := by decide +kernel
theorem dX10_peek_33 : decode cX10_peek 33 = .ok (.lreturn, 1) := by decide +kernel
theorem dX10_shift_0 : decode cX10_shift 0 = .ok (.iload_n 1, 1) := by decide +kernel
theorem dX10_shift_1 : decode cX10_shift 1 = .ok (.invokestatic 308, 3) := by decide +kernel
theorem dX10_shift_4 : decode cX10_shift 4 = .ok (.ifCond .eq 10, 3) := by decide +kernel
theorem dX10_shift_7 : decode cX10_shift 7 = .ok (.iload_n 3, 1) := by decide +kernel
theorem dX10_shift_8 : decode cX10_shift 8 = .ok (.invokestatic 308, 3) := by decide +kernel
theorem dX10_shift_11 : decode cX10_shift 11 = .ok (.ifCond .ne 5, 3) := by decide +kernel
theorem dX10_shift_14 : decode cX10_shift 14 = .ok (.iconst (-1), 1) := by decide +kernel
theorem dX10_shift_15 : decode cX10_shift 15 = .ok (.ireturn, 1) := by decide +kernel
theorem dX10_shift_16 : decode cX10_shift 16 = .ok (.aload_n 0, 1) := by decide +kernel
theorem dX10_shift_17 : decode cX10_shift 17 = .ok (.getfield 52, 3) := by decide +kernel
theorem dX10_shift_20 : decode cX10_shift 20 = .ok (.iload_n 1, 1) := by decide +kernel
theorem dX10_shift_21 : decode cX10_shift 21 = .ok (.iaload, 1) := by decide +kernel
theorem dX10_shift_22 : decode cX10_shift 22 = .ok (.iconst (-1), 1) := by decide +kernel
theorem dX10_shift_23 : decode cX10_shift 23 = .ok (.if_icmp .eq 13, 3) := by decide +kernel
theorem dX10_shift_26 : decode cX10_shift 26 = .ok (.aload_n 0, 1) := by decide +kernel
theorem dX10_shift_27 : decode cX10_shift 27 = .ok (.getfield 52, 3) := by decide +kernel
theorem dX10_shift_30 : decode cX10_shift 30 = .ok (.iload_n 3, 1) := by decide +kernel
theorem dX10_shift_31 : decode cX10_shift 31 = .ok (.iaload, 1) := by decide +kernel
theorem dX10_shift_32 : decode cX10_shift 32 = .ok (.iconst (-1), 1) := by decide +kernel
theorem dX10_shift_33 : decode cX10_shift 33 = .ok (.if_icmp .ne 6, 3) := by decide +kernel
theorem dX10_shift_36 : decode cX10_shift 36 = .ok (.bipush (-11), 2) := by decide +kernel
theorem dX10_shift_38 : decode cX10_shift 38 = .ok (.ireturn, 1) := by decide +kernel
theorem dX10_shift_39 : decode cX10_shift 39 = .ok (.aload_n 0, 1) := by decide +kernel
theorem dX10_shift_40 : decode cX10_shift 40 = .ok (.getfield 52, 3) := by decide +kernel
theorem dX10_shift_43 : decode cX10_shift 43 = .ok (.iload_n 1, 1) := by decide +kernel
theorem dX10_shift_44 : decode cX10_shift 44 = .ok (.iaload, 1) := by decide +kernel
theorem dX10_shift_45 : decode cX10_shift 45 = .ok (.aload_n 0, 1) := by decide +kernel
theorem dX10_shift_46 : decode cX10_shift 46 = .ok (.getfield 52, 3) := by decide +kernel
theorem dX10_shift_49 : decode cX10_shift 49 = .ok (.iload_n 3, 1) := by decide +kernel
theorem dX10_shift_50 : decode cX10_shift 50 = .ok (.iaload, 1) := by decide +kernel
theorem dX10_shift_51 : decode cX10_shift 51 = .ok (.if_icmp .eq 6, 3) := by decide +kernel
theorem dX10_shift_54 : decode cX10_shift 54 = .ok (.bipush (-12), 2) := by decide +kernel
theorem dX10_shift_56 : decode cX10_shift 56 = .ok (.ireturn, 1) := by decide +kernel
theorem dX10_shift_57 : decode cX10_shift 57 = .ok (.iload 5, 2) := by decide +kernel
theorem dX10_shift_59 : decode cX10_shift 59 = .ok (.ifCond .lt 39, 3) := by decide +kernel
theorem dX10_shift_62 : decode cX10_shift 62 = .ok (.iload_n 2, 1) := by decide +kernel
theorem dX10_shift_63 : decode cX10_shift 63 = .ok (.ifCond .lt 35, 3) := by decide +kernel
theorem dX10_shift_66 : decode cX10_shift 66 = .ok (.iload 4, 2) := by decide +kernel
theorem dX10_shift_68 : decode cX10_shift 68 = .ok (.ifCond .lt 30, 3) := by decide +kernel
theorem dX10_shift_71 : decode cX10_shift 71 = .ok (.iload_n 2, 1) := by decide +kernel
theorem dX10_shift_72 : decode cX10_shift 72 = .ok (.aload_n 0, 1) := by decide +kernel
theorem dX10_shift_73 : decode cX10_shift 73 = .ok (.getfield 55, 3) := by decide +kernel
theorem dX10_shift_76 : decode cX10_shift 76 = .ok (.iload_n 1, 1) := by decide +kernel
theorem dX10_shift_77 : decode cX10_shift 77 = .ok (.iaload, 1) := by decide +kernel
theorem dX10_shift_78 : decode cX10_shift 78 = .ok (.iload 5, 2) := by decide +kernel
theorem dX10_shift_80 : decode cX10_shift 80 = .ok (.isub, 1) := by decide +kernel
theorem dX10_shift_81 : decode cX10_shift 81 = .ok (.if_icmp .gt 17, 3) := by decide +kernel
theorem dX10_shift_84 : decode cX10_shift 84 = .ok (.iload 4, 2) := by decide +kernel
theorem dX10_shift_86 : decode cX10_shift 86 = .ok (.aload_n 0, 1) := by decide +kernel
theorem dX10_shift_87 : decode cX10_shift 87 = .ok (.getfield 55, 3) := by decide +kernel
theorem dX10_shift_90 : decode cX10_shift 90 = .ok (.iload_n 3, 1) := by decide +kernel
theorem dX10_shift_91 : decode cX10_shift 91 = .ok (.iaload, 1) := by decide +kernel
theorem dX10_shift_92 : decode cX10_shift 92 = .ok (.iload 5, 2) := by decide +kernel
theorem dX10_shift_94 : decode cX10_shift 94 = .ok (.isub, 1) := by decide +kernel
theorem dX10_shift_95 : decode cX10_shift 95 = .ok (.if_icmp .le 6, 3) := by decide +kernel
theorem dX10_shift_98 : decode cX10_shift 98 = .ok (.bipush (-13), 2) := by decide +kernel
theorem dX10_shift_100 : decode cX10_shift 100 = .ok (.ireturn, 1) := by decide +kernel
theorem dX10_shift_101 : decode cX10_shift 101 = .ok (.iconst 0, 1) := by decide +kernel
theorem dX10_shift_102 : decode cX10_shift 102 = .ok (.istore 6, 2) := by decide +kernel
theorem dX10_shift_104 : decode cX10_shift 104 = .ok (.iload 6, 2) := by decide +kernel
theorem dX10_shift_106 : decode cX10_shift 106 = .ok (.iload 5, 2) := by decide +kernel
theorem dX10_shift_108 : decode cX10_shift 108 = .ok (.if_icmp .ge 30, 3) := by decide +kernel
theorem dX10_shift_111 : decode cX10_shift 111 = .ok (.aload_n 0, 1) := by decide +kernel
theorem dX10_shift_112 : decode cX10_shift 112 = .ok (.getfield 61, 3) := by decide +kernel
theorem dX10_shift_115 : decode cX10_shift 115 = .ok (.iload 6, 2) := by decide +kernel
theorem dX10_shift_117 : decode cX10_shift 117 = .ok (.aload_n 0, 1) := by decide +kernel
theorem dX10_shift_118 : decode cX10_shift 118 = .ok (.getfield 58, 3) := by decide +kernel
theorem dX10_shift_121 : decode cX10_shift 121 = .ok (.bipush 60, 2) := by decide +kernel
theorem dX10_shift_123 : decode cX10_shift 123 = .ok (.iload_n 1, 1) := by decide +kernel
theorem dX10_shift_124 : decode cX10_shift 124 = .ok (.imul, 1) := by decide +kernel
theorem dX10_shift_125 : decode cX10_shift 125 = .ok (.iload_n 2, 1) := by decide +kernel
theorem dX10_shift_126 : decode cX10_shift 126 = .ok (.iadd, 1) := by decide +kernel
theorem dX10_shift_127 : decode cX10_shift 127 = .ok (.iload 6, 2) := by decide +kernel
theorem dX10_shift_129 : decode cX10_shift 129 = .ok (.iadd, 1) := by decide +kernel
theorem dX10_shift_130 : decode cX10_shift 130 = .ok (.laload, 1) := by decide +kernel
theorem dX10_shift_131 : decode cX10_shift 131 = .ok (.lastore, 1) := by decide +kernel
theorem dX10_shift_132 : decode cX10_shift 132 = .ok (.iinc 6 1, 3) := by decide +kernel
theorem dX10_shift_135 : decode cX10_shift 135 = .ok (.goto (-31), 3) := by decide +kernel
theorem dX10_shift_138 : decode cX10_shift 138 = .ok (.iconst 0, 1) := by decide +kernel
theorem dX10_shift_139 : decode cX10_shift 139 = .ok (.istore 6, 2) := by decide +kernel
theorem dX10_shift_141 : decode cX10_shift 141 = .ok (.iload 6, 2) := by decide +kernel
theorem dX10_shift_143 : decode cX10_shift 143 = .ok (.iload 5, 2) := by decide +kernel
theorem dX10_shift_145 : decode cX10_shift 145 = .ok (.if_icmp .ge 31, 3) := by decide +kernel
theorem dX10_shift_148 : decode cX10_shift 148 = .ok (.aload_n 0, 1) := by decide +kernel
theorem dX10_shift_149 : decode cX10_shift 149 = .ok (.getfield 58, 3) := by decide +kernel
theorem dX10_shift_152 : decode cX10_shift 152 = .ok (.bipush 60, 2) := by decide +kernel
theorem dX10_shift_154 : decode cX10_shift 154 = .ok (.iload_n 3, 1) := by decide +kernel
theorem dX10_shift_155 : decode cX10_shift 155 = .ok (.imul, 1) := by decide +kernel
theorem dX10_shift_156 : decode cX10_shift 156 = .ok (.iload 4, 2) := by decide +kernel
theorem dX10_shift_158 : decode cX10_shift 158 = .ok (.iadd, 1) := by decide +kernel
theorem dX10_shift_159 : decode cX10_shift 159 = .ok (.iload 6, 2) := by decide +kernel
theorem dX10_shift_161 : decode cX10_shift 161 = .ok (.iadd, 1) := by decide +kernel
theorem dX10_shift_162 : decode cX10_shift 162 = .ok (.aload_n 0, 1) := by decide +kernel
theorem dX10_shift_163 : decode cX10_shift 163 = .ok (.getfield 61, 3) := by decide +kernel
theorem dX10_shift_166 : decode cX10_shift 166 = .ok (.iload 6, 2) := by decide +kernel
theorem dX10_shift_168 : decode cX10_shift 168 = .ok (.laload, 1) := by decide +kernel
theorem dX10_shift_169 : decode cX10_shift 169 = .ok (.lastore, 1) := by decide +kernel
theorem dX10_shift_170 : decode cX10_shift 170 = .ok (.iinc 6 1, 3) := by decide +kernel
theorem dX10_shift_173 : decode cX10_shift 173 = .ok (.goto (-32), 3) := by decide +kernel
theorem dX10_shift_176 : decode cX10_shift 176 = .ok (.iload 5, 2) := by decide +kernel
theorem dX10_shift_178 : decode cX10_shift 178 = .ok (.ireturn, 1) := by decide +kernel
theorem dX10_judge_0 : decode cX10_judge 0 = .ok (.iload_n 1, 1) := by decide +kernel
theorem dX10_judge_1 : decode cX10_judge 1 = .ok (.invokestatic 308, 3) := by decide +kernel
theorem dX10_judge_4 : decode cX10_judge 4 = .ok (.ifCond .ne 5, 3) := by decide +kernel
theorem dX10_judge_7 : decode cX10_judge 7 = .ok (.iconst (-1), 1) := by decide +kernel
theorem dX10_judge_8 : decode cX10_judge 8 = .ok (.ireturn, 1) := by decide +kernel
theorem dX10_judge_9 : decode cX10_judge 9 = .ok (.aload_n 0, 1) := by decide +kernel
theorem dX10_judge_10 : decode cX10_judge 10 = .ok (.invokevirtual 253, 3) := by decide +kernel
theorem dX10_judge_13 : decode cX10_judge 13 = .ok (.ifCond .ne 6, 3) := by decide +kernel
theorem dX10_judge_16 : decode cX10_judge 16 = .ok (.bipush (-6), 2) := by decide +kernel
theorem dX10_judge_18 : decode cX10_judge 18 = .ok (.ireturn, 1) := by decide +kernel
theorem dX10_judge_19 : decode cX10_judge 19 = .ok (.aload_n 0, 1) := by decide +kernel
theorem dX10_judge_20 : decode cX10_judge 20 = .ok (.getfield 52, 3) := by decide +kernel
theorem dX10_judge_23 : decode cX10_judge 23 = .ok (.iload_n 1, 1) := by decide +kernel
theorem dX10_judge_24 : decode cX10_judge 24 = .ok (.iaload, 1) := by decide +kernel
theorem dX10_judge_25 : decode cX10_judge 25 = .ok (.iconst (-1), 1) := by decide +kernel
theorem dX10_judge_26 : decode cX10_judge 26 = .ok (.if_icmp .eq 16, 3) := by decide +kernel
theorem dX10_judge_29 : decode cX10_judge 29 = .ok (.aload_n 0, 1) := by decide +kernel
theorem dX10_judge_30 : decode cX10_judge 30 = .ok (.getfield 52, 3) := by decide +kernel
theorem dX10_judge_33 : decode cX10_judge 33 = .ok (.iload_n 1, 1) := by decide +kernel
theorem dX10_judge_34 : decode cX10_judge 34 = .ok (.iaload, 1) := by decide +kernel
theorem dX10_judge_35 : decode cX10_judge 35 = .ok (.iconst 2, 1) := by decide +kernel
theorem dX10_judge_36 : decode cX10_judge 36 = .ok (.if_icmp .eq 6, 3) := by decide +kernel
theorem dX10_judge_39 : decode cX10_judge 39 = .ok (.bipush (-12), 2) := by decide +kernel
theorem dX10_judge_41 : decode cX10_judge 41 = .ok (.ireturn, 1) := by decide +kernel
theorem dX10_judge_42 : decode cX10_judge 42 = .ok (.iconst 0, 1) := by decide +kernel
theorem dX10_judge_43 : decode cX10_judge 43 = .ok (.istore_n 3, 1) := by decide +kernel
theorem dX10_judge_44 : decode cX10_judge 44 = .ok (.iconst 0, 1) := by decide +kernel
theorem dX10_judge_45 : decode cX10_judge 45 = .ok (.istore 4, 2) := by decide +kernel
theorem dX10_judge_47 : decode cX10_judge 47 = .ok (.iload 4, 2) := by decide +kernel
theorem dX10_judge_49 : decode cX10_judge 49 = .ok (.bipush 9, 2) := by decide +kernel
theorem dX10_judge_51 : decode cX10_judge 51 = .ok (.if_icmp .ge 72, 3) := by decide +kernel
theorem dX10_judge_54 : decode cX10_judge 54 = .ok (.aload_n 0, 1) := by decide +kernel
theorem dX10_judge_55 : decode cX10_judge 55 = .ok (.iload 4, 2) := by decide +kernel
theorem dX10_judge_57 : decode cX10_judge 57 = .ok (.invokevirtual 82, 3) := by decide +kernel
theorem dX10_judge_60 : decode cX10_judge 60 = .ok (.ifCond .ne 6, 3) := by decide +kernel
theorem dX10_judge_63 : decode cX10_judge 63 = .ok (.goto 54, 3) := by decide +kernel
theorem dX10_judge_66 : decode cX10_judge 66 = .ok (.iload_n 2, 1) := by decide +kernel
theorem dX10_judge_67 : decode cX10_judge 67 = .ok (.ifCond .lt 15, 3) := by decide +kernel
theorem dX10_judge_70 : decode cX10_judge 70 = .ok (.iload_n 2, 1) := by decide +kernel
theorem dX10_judge_71 : decode cX10_judge 71 = .ok (.aload_n 0, 1) := by decide +kernel
theorem dX10_judge_72 : decode cX10_judge 72 = .ok (.getfield 55, 3) := by decide +kernel
theorem dX10_judge_75 : decode cX10_judge 75 = .ok (.iload_n 1, 1) := by decide +kernel
theorem dX10_judge_76 : decode cX10_judge 76 = .ok (.iaload, 1) := by decide +kernel
theorem dX10_judge_77 : decode cX10_judge 77 = .ok (.iload_n 3, 1) := by decide +kernel
theorem dX10_judge_78 : decode cX10_judge 78 = .ok (.isub, 1) := by decide +kernel
theorem dX10_judge_79 : decode cX10_judge 79 = .ok (.if_icmp .lt 8, 3) := by decide +kernel
theorem dX10_judge_82 : decode cX10_judge 82 = .ok (.bipush 100, 2) := by decide +kernel
theorem dX10_judge_84 : decode cX10_judge 84 = .ok (.iload_n 3, 1) := by decide +kernel
theorem dX10_judge_85 : decode cX10_judge 85 = .ok (.iadd, 1) := by decide +kernel
theorem dX10_judge_86 : decode cX10_judge 86 = .ok (.ireturn, 1) := by decide +kernel
theorem dX10_judge_87 : decode cX10_judge 87 = .ok (.aload_n 0, 1) := by decide +kernel
theorem dX10_judge_88 : decode cX10_judge 88 = .ok (.getfield 58, 3) := by decide +kernel
theorem dX10_judge_91 : decode cX10_judge 91 = .ok (.bipush 60, 2) := by decide +kernel
theorem dX10_judge_93 : decode cX10_judge 93 = .ok (.iload_n 1, 1) := by decide +kernel
theorem dX10_judge_94 : decode cX10_judge 94 = .ok (.imul, 1) := by decide +kernel
theorem dX10_judge_95 : decode cX10_judge 95 = .ok (.iload_n 2, 1) := by decide +kernel
theorem dX10_judge_96 : decode cX10_judge 96 = .ok (.iadd, 1) := by decide +kernel
theorem dX10_judge_97 : decode cX10_judge 97 = .ok (.iload_n 3, 1) := by decide +kernel
theorem dX10_judge_98 : decode cX10_judge 98 = .ok (.iadd, 1) := by decide +kernel
theorem dX10_judge_99 : decode cX10_judge 99 = .ok (.laload, 1) := by decide +kernel
theorem dX10_judge_100 : decode cX10_judge 100 = .ok (.aload_n 0, 1) := by decide +kernel
theorem dX10_judge_101 : decode cX10_judge 101 = .ok (.getfield 42, 3) := by decide +kernel
theorem dX10_judge_104 : decode cX10_judge 104 = .ok (.iload 4, 2) := by decide +kernel
theorem dX10_judge_106 : decode cX10_judge 106 = .ok (.iaload, 1) := by decide +kernel
theorem dX10_judge_107 : decode cX10_judge 107 = .ok (.i2l, 1) := by decide +kernel
theorem dX10_judge_108 : decode cX10_judge 108 = .ok (.lcmp, 1) := by decide +kernel
theorem dX10_judge_109 : decode cX10_judge 109 = .ok (.ifCond .eq 5, 3) := by decide +kernel
theorem dX10_judge_112 : decode cX10_judge 112 = .ok (.iload_n 3, 1) := by decide +kernel
theorem dX10_judge_113 : decode cX10_judge 113 = .ok (.ireturn, 1) := by decide +kernel
theorem dX10_judge_114 : decode cX10_judge 114 = .ok (.iinc 3 1, 3) := by decide +kernel
theorem dX10_judge_117 : decode cX10_judge 117 = .ok (.iinc 4 1, 3) := by decide +kernel
theorem dX10_judge_120 : decode cX10_judge 120 = .ok (.goto (-73), 3) := by decide +kernel
theorem dX10_judge_123 : decode cX10_judge 123 = .ok (.bipush (-5), 2) := by decide +kernel
theorem dX10_judge_125 : decode cX10_judge 125 = .ok (.ireturn, 1) := by decide +kernel
