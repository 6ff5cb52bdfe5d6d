theorem dX0_init_0 : decode cX0_init 0 = .ok (.aload_n 0, 1) := by decide +kernel
theorem dX0_init_1 : decode cX0_init 1 = .ok (.invokespecial 3, 3) := by decide +kernel
theorem dX0_init_4 : decode cX0_init 4 = .ok (.aload_n 0, 1) := by decide +kernel
theorem dX0_init_5 : decode cX0_init 5 = .ok (.lconst 1, 1) := by decide +kernel
theorem dX0_init_6 : decode cX0_init 6 = .ok (.putfield 9, 3) := by decide +kernel
theorem dX0_init_9 : decode cX0_init 9 = .ok (.return_, 1) := by decide +kernel
theorem dX0_become_0 : decode cX0_become 0 = .ok (.aload_n 0, 1) := by decide +kernel
theorem dX0_become_1 : decode cX0_become 1 = .ok (.lload_n 1, 1) := by decide +kernel
theorem dX0_become_2 : decode cX0_become 2 = .ok (.lload_n 3, 1) := by decide +kernel
theorem dX0_become_3 : decode cX0_become 3 = .ok (.lload_n 1, 1) := by decide +kernel
theorem dX0_become_4 : decode cX0_become 4 = .ok (.lload_n 3, 1) := by decide +kernel
theorem dX0_become_5 : decode cX0_become 5 = .ok (.invokestatic 15, 3) := by decide +kernel
theorem dX0_become_8 : decode cX0_become 8 = .ok (.invokevirtual 19, 3) := by decide +kernel
theorem dX0_become_11 : decode cX0_become 11 = .ok (.return_, 1) := by decide +kernel
theorem dX0_add_0 : decode cX0_add 0 = .ok (.aload_n 0, 1) := by decide +kernel
theorem dX0_add_1 : decode cX0_add 1 = .ok (.getfield 23, 3) := by decide +kernel
theorem dX0_add_4 : decode cX0_add 4 = .ok (.lload_n 3, 1) := by decide +kernel
theorem dX0_add_5 : decode cX0_add 5 = .ok (.lmul, 1) := by decide +kernel
theorem dX0_add_6 : decode cX0_add 6 = .ok (.lload_n 1, 1) := by decide +kernel
theorem dX0_add_7 : decode cX0_add 7 = .ok (.aload_n 0, 1) := by decide +kernel
theorem dX0_add_8 : decode cX0_add 8 = .ok (.getfield 9, 3) := by decide +kernel
theorem dX0_add_11 : decode cX0_add 11 = .ok (.lmul, 1) := by decide +kernel
theorem dX0_add_12 : decode cX0_add 12 = .ok (.ladd, 1) := by decide +kernel
theorem dX0_add_13 : decode cX0_add 13 = .ok (.lstore 5, 2) := by decide +kernel
theorem dX0_add_15 : decode cX0_add 15 = .ok (.aload_n 0, 1) := by decide +kernel
theorem dX0_add_16 : decode cX0_add 16 = .ok (.getfield 9, 3) := by decide +kernel
theorem dX0_add_19 : decode cX0_add 19 = .ok (.lload_n 3, 1) := by decide +kernel
theorem dX0_add_20 : decode cX0_add 20 = .ok (.lmul, 1) := by decide +kernel
theorem dX0_add_21 : decode cX0_add 21 = .ok (.lstore 7, 2) := by decide +kernel
theorem dX0_add_23 : decode cX0_add 23 = .ok (.aload_n 0, 1) := by decide +kernel
theorem dX0_add_24 : decode cX0_add 24 = .ok (.lload 5, 2) := by decide +kernel
theorem dX0_add_26 : decode cX0_add 26 = .ok (.lload 7, 2) := by decide +kernel
theorem dX0_add_28 : decode cX0_add 28 = .ok (.lload 5, 2) := by decide +kernel
theorem dX0_add_30 : decode cX0_add 30 = .ok (.lload 7, 2) := by decide +kernel
theorem dX0_add_32 : decode cX0_add 32 = .ok (.invokestatic 15, 3) := by decide +kernel
theorem dX0_add_35 : decode cX0_add 35 = .ok (.invokevirtual 19, 3) := by decide +kernel
theorem dX0_add_38 : decode cX0_add 38 = .ok (.return_, 1) := by decide +kernel
theorem dX0_cut_0 : decode cX0_cut 0 = .ok (.aload_n 0, 1) := by decide +kernel
theorem dX0_cut_1 : decode cX0_cut 1 = .ok (.lload 5, 2) := by decide +kernel
theorem dX0_cut_3 : decode cX0_cut 3 = .ok (.lconst 1, 1) := by decide +kernel
theorem dX0_cut_4 : decode cX0_cut 4 = .ok (.lcmp, 1) := by decide +kernel
theorem dX0_cut_5 : decode cX0_cut 5 = .ok (.ifCond .le 10, 3) := by decide +kernel
theorem dX0_cut_8 : decode cX0_cut 8 = .ok (.lload_n 1, 1) := by decide +kernel
theorem dX0_cut_9 : decode cX0_cut 9 = .ok (.lload 5, 2) := by decide +kernel
theorem dX0_cut_11 : decode cX0_cut 11 = .ok (.ldiv, 1) := by decide +kernel
theorem dX0_cut_12 : decode cX0_cut 12 = .ok (.goto 4, 3) := by decide +kernel
theorem dX0_cut_15 : decode cX0_cut 15 = .ok (.lload_n 1, 1) := by decide +kernel
theorem dX0_cut_16 : decode cX0_cut 16 = .ok (.putfield 23, 3) := by decide +kernel
theorem dX0_cut_19 : decode cX0_cut 19 = .ok (.aload_n 0, 1) := by decide +kernel
theorem dX0_cut_20 : decode cX0_cut 20 = .ok (.lload 5, 2) := by decide +kernel
theorem dX0_cut_22 : decode cX0_cut 22 = .ok (.lconst 1, 1) := by decide +kernel
theorem dX0_cut_23 : decode cX0_cut 23 = .ok (.lcmp, 1) := by decide +kernel
theorem dX0_cut_24 : decode cX0_cut 24 = .ok (.ifCond .le 10, 3) := by decide +kernel
theorem dX0_cut_27 : decode cX0_cut 27 = .ok (.lload_n 3, 1) := by decide +kernel
theorem dX0_cut_28 : decode cX0_cut 28 = .ok (.lload 5, 2) := by decide +kernel
theorem dX0_cut_30 : decode cX0_cut 30 = .ok (.ldiv, 1) := by decide +kernel
theorem dX0_cut_31 : decode cX0_cut 31 = .ok (.goto 4, 3) := by decide +kernel
theorem dX0_cut_34 : decode cX0_cut 34 = .ok (.lload_n 3, 1) := by decide +kernel
theorem dX0_cut_35 : decode cX0_cut 35 = .ok (.putfield 9, 3) := by decide +kernel
theorem dX0_cut_38 : decode cX0_cut 38 = .ok (.return_, 1) := by decide +kernel
theorem dX0_isFine_0 : decode cX0_isFine 0 = .ok (.aload_n 0, 1) := by decide +kernel
theorem dX0_isFine_1 : decode cX0_isFine 1 = .ok (.getfield 23, 3) := by decide +kernel
theorem dX0_isFine_4 : decode cX0_isFine 4 = .ok (.ldc2_w 26, 3) := by decide +kernel
theorem dX0_isFine_7 : decode cX0_isFine 7 = .ok (.lcmp, 1) := by decide +kernel
theorem dX0_isFine_8 : decode cX0_isFine 8 = .ok (.ifCond .gt 14, 3) := by decide +kernel
theorem dX0_isFine_11 : decode cX0_isFine 11 = .ok (.aload_n 0, 1) := by decide +kernel
theorem dX0_isFine_12 : decode cX0_isFine 12 = .ok (.getfield 9, 3) := by decide +kernel
theorem dX0_isFine_15 : decode cX0_isFine 15 = .ok (.ldc2_w 26, 3) := by decide +kernel
theorem dX0_isFine_18 : decode cX0_isFine 18 = .ok (.lcmp, 1) := by decide +kernel
theorem dX0_isFine_19 : decode cX0_isFine 19 = .ok (.ifCond .le 7, 3) := by decide +kernel
theorem dX0_isFine_22 : decode cX0_isFine 22 = .ok (.iconst 1, 1) := by decide +kernel
theorem dX0_isFine_23 : decode cX0_isFine 23 = .ok (.goto 4, 3) := by decide +kernel
theorem dX0_isFine_26 : decode cX0_isFine 26 = .ok (.iconst 0, 1) := by decide +kernel
theorem dX0_isFine_27 : decode cX0_isFine 27 = .ok (.ireturn, 1) := by decide +kernel
theorem dX0_isMoreThan_0 : decode cX0_isMoreThan 0 = .ok (.aload_n 0, 1) := by decide +kernel
theorem dX0_isMoreThan_1 : decode cX0_isMoreThan 1 = .ok (.getfield 23, 3) := by decide +kernel
theorem dX0_isMoreThan_4 : decode cX0_isMoreThan 4 = .ok (.aload_n 1, 1) := by decide +kernel
theorem dX0_isMoreThan_5 : decode cX0_isMoreThan 5 = .ok (.getfield 9, 3) := by decide +kernel
theorem dX0_isMoreThan_8 : decode cX0_isMoreThan 8 = .ok (.lmul, 1) := by decide +kernel
theorem dX0_isMoreThan_9 : decode cX0_isMoreThan 9 = .ok (.aload_n 1, 1) := by decide +kernel
theorem dX0_isMoreThan_10 : decode cX0_isMoreThan 10 = .ok (.getfield 23, 3) := by decide +kernel
theorem dX0_isMoreThan_13 : decode cX0_isMoreThan 13 = .ok (.aload_n 0, 1) := by decide +kernel
theorem dX0_isMoreThan_14 : decode cX0_isMoreThan 14 = .ok (.getfield 9, 3) := by decide +kernel
theorem dX0_isMoreThan_17 : decode cX0_isMoreThan 17 = .ok (.lmul, 1) := by decide +kernel
theorem dX0_isMoreThan_18 : decode cX0_isMoreThan 18 = .ok (.lcmp, 1) := by decide +kernel
theorem dX0_isMoreThan_19 : decode cX0_isMoreThan 19 = .ok (.ifCond .le 7, 3) := by decide +kernel
theorem dX0_isMoreThan_22 : decode cX0_isMoreThan 22 = .ok (.iconst 1, 1) := by decide +kernel
theorem dX0_isMoreThan_23 : decode cX0_isMoreThan 23 = .ok (.goto 4, 3) := by decide +kernel
theorem dX0_isMoreThan_26 : decode cX0_isMoreThan 26 = .ok (.iconst 0, 1) := by decide +kernel
theorem dX0_isMoreThan_27 : decode cX0_isMoreThan 27 = .ok (.ireturn, 1) := by decide +kernel
theorem dX0_partOf_0 : decode cX0_partOf 0 = .ok (.iload_n 1, 1) := by decide +kernel
theorem dX0_partOf_1 : decode cX0_partOf 1 = .ok (.lookupswitch 37 #[(0, 27), (1, 32)], 27) := by decide +kernel
theorem dX0_partOf_28 : decode cX0_partOf 28 = .ok (.aload_n 0, 1) := by decide +kernel
theorem dX0_partOf_29 : decode cX0_partOf 29 = .ok (.getfield 23, 3) := by decide +kernel
theorem dX0_partOf_32 : decode cX0_partOf 32 = .ok (.lreturn, 1) := by decide +kernel
theorem dX0_partOf_33 : decode cX0_partOf 33 = .ok (.aload_n 0, 1) := by decide +kernel
theorem dX0_partOf_34 : decode cX0_partOf 34 = .ok (.getfield 9, 3) := by decide +kernel
theorem dX0_partOf_37 : decode cX0_partOf 37 = .ok (.lreturn, 1) := by decide +kernel
theorem dX0_partOf_38 : decode cX0_partOf 38 = .ok (.ldc2_w 28, 3) := by decide +kernel
theorem dX0_partOf_41 : decode cX0_partOf 41 = .ok (.lreturn, 1) := by decide +kernel
theorem dX0_commonOf_0 : decode cX0_commonOf 0 = .ok (.iconst 0, 1) := by decide +kernel
theorem dX0_commonOf_1 : decode cX0_commonOf 1 = .ok (.istore 4, 2) := by decide +kernel
theorem dX0_commonOf_3 : decode cX0_commonOf 3 = .ok (.iload 4, 2) := by decide +kernel
theorem dX0_commonOf_5 : decode cX0_commonOf 5 = .ok (.bipush 100, 2) := by decide +kernel
theorem dX0_commonOf_7 : decode cX0_commonOf 7 = .ok (.if_icmp .ge 25, 3) := by decide +kernel
theorem dX0_commonOf_10 : decode cX0_commonOf 10 = .ok (.lload_n 2, 1) := by decide +kernel
theorem dX0_commonOf_11 : decode cX0_commonOf 11 = .ok (.lconst 0, 1) := by decide +kernel
theorem dX0_commonOf_12 : decode cX0_commonOf 12 = .ok (.lcmp, 1) := by decide +kernel
theorem dX0_commonOf_13 : decode cX0_commonOf 13 = .ok (.ifCond .eq 19, 3) := by decide +kernel
theorem dX0_commonOf_16 : decode cX0_commonOf 16 = .ok (.lload_n 0, 1) := by decide +kernel
theorem dX0_commonOf_17 : decode cX0_commonOf 17 = .ok (.lload_n 2, 1) := by decide +kernel
theorem dX0_commonOf_18 : decode cX0_commonOf 18 = .ok (.lrem, 1) := by decide +kernel
theorem dX0_commonOf_19 : decode cX0_commonOf 19 = .ok (.lstore 5, 2) := by decide +kernel
theorem dX0_commonOf_21 : decode cX0_commonOf 21 = .ok (.lload_n 2, 1) := by decide +kernel
theorem dX0_commonOf_22 : decode cX0_commonOf 22 = .ok (.lstore_n 0, 1) := by decide +kernel
theorem dX0_commonOf_23 : decode cX0_commonOf 23 = .ok (.lload 5, 2) := by decide +kernel
theorem dX0_commonOf_25 : decode cX0_commonOf 25 = .ok (.lstore_n 2, 1) := by decide +kernel
theorem dX0_commonOf_26 : decode cX0_commonOf 26 = .ok (.iinc 4 1, 3) := by decide +kernel
theorem dX0_commonOf_29 : decode cX0_commonOf 29 = .ok (.goto (-26), 3) := by decide +kernel
theorem dX0_commonOf_32 : decode cX0_commonOf 32 = .ok (.lload_n 0, 1) := by decide +kernel
theorem dX0_commonOf_33 : decode cX0_commonOf 33 = .ok (.lreturn, 1) := by decide +kernel
theorem dX0_product_0 : decode cX0_product 0 = .ok (.lload_n 0, 1) := by decide +kernel
theorem dX0_product_1 : decode cX0_product 1 = .ok (.lconst 0, 1) := by decide +kernel
theorem dX0_product_2 : decode cX0_product 2 = .ok (.lcmp, 1) := by decide +kernel
theorem dX0_product_3 : decode cX0_product 3 = .ok (.ifCond .le 17, 3) := by decide +kernel
theorem dX0_product_6 : decode cX0_product 6 = .ok (.lload_n 2, 1) := by decide +kernel
theorem dX0_product_7 : decode cX0_product 7 = .ok (.ldc2_w 30, 3) := by decide +kernel
theorem dX0_product_10 : decode cX0_product 10 = .ok (.lload_n 0, 1) := by decide +kernel
theorem dX0_product_11 : decode cX0_product 11 = .ok (.ldiv, 1) := by decide +kernel
theorem dX0_product_12 : decode cX0_product 12 = .ok (.lcmp, 1) := by decide +kernel
theorem dX0_product_13 : decode cX0_product 13 = .ok (.ifCond .le 7, 3) := by decide +kernel
theorem dX0_product_16 : decode cX0_product 16 = .ok (.ldc2_w 28, 3) := by decide +kernel
theorem dX0_product_19 : decode cX0_product 19 = .ok (.lreturn, 1) := by decide +kernel
theorem dX0_product_20 : decode cX0_product 20 = .ok (.lload_n 0, 1) := by decide +kernel
theorem dX0_product_21 : decode cX0_product 21 = .ok (.lload_n 2, 1) := by decide +kernel
theorem dX0_product_22 : decode cX0_product 22 = .ok (.lmul, 1) := by decide +kernel
theorem dX0_product_23 : decode cX0_product 23 = .ok (.lreturn, 1) := by decide +kernel
theorem dX0_timesBy_0 : decode cX0_timesBy 0 = .ok (.lload_n 0, 1) := by decide +kernel
theorem dX0_timesBy_1 : decode cX0_timesBy 1 = .ok (.lload 4, 2) := by decide +kernel
theorem dX0_timesBy_3 : decode cX0_timesBy 3 = .ok (.invokestatic 15, 3) := by decide +kernel
theorem dX0_timesBy_6 : decode cX0_timesBy 6 = .ok (.lstore 6, 2) := by decide +kernel
theorem dX0_timesBy_8 : decode cX0_timesBy 8 = .ok (.lload 6, 2) := by decide +kernel
theorem dX0_timesBy_10 : decode cX0_timesBy 10 = .ok (.lconst 1, 1) := by decide +kernel
theorem dX0_timesBy_11 : decode cX0_timesBy 11 = .ok (.lcmp, 1) := by decide +kernel
theorem dX0_timesBy_12 : decode cX0_timesBy 12 = .ok (.ifCond .ge 7, 3) := by decide +kernel
theorem dX0_timesBy_15 : decode cX0_timesBy 15 = .ok (.ldc2_w 28, 3) := by decide +kernel
theorem dX0_timesBy_18 : decode cX0_timesBy 18 = .ok (.lreturn, 1) := by decide +kernel
theorem dX0_timesBy_19 : decode cX0_timesBy 19 = .ok (.lload 4, 2) := by decide +kernel
theorem dX0_timesBy_21 : decode cX0_timesBy 21 = .ok (.lload 6, 2) := by decide +kernel
theorem dX0_timesBy_23 : decode cX0_timesBy 23 = .ok (.ldiv, 1) := by decide +kernel
theorem dX0_timesBy_24 : decode cX0_timesBy 24 = .ok (.lstore 8, 2) := by decide +kernel
theorem dX0_timesBy_26 : decode cX0_timesBy 26 = .ok (.lload 8, 2) := by decide +kernel
theorem dX0_timesBy_28 : decode cX0_timesBy 28 = .ok (.lconst 1, 1) := by decide +kernel
theorem dX0_timesBy_29 : decode cX0_timesBy 29 = .ok (.lcmp, 1) := by decide +kernel
theorem dX0_timesBy_30 : decode cX0_timesBy 30 = .ok (.ifCond .ge 7, 3) := by decide +kernel
theorem dX0_timesBy_33 : decode cX0_timesBy 33 = .ok (.ldc2_w 28, 3) := by decide +kernel
theorem dX0_timesBy_36 : decode cX0_timesBy 36 = .ok (.lreturn, 1) := by decide +kernel
theorem dX0_timesBy_37 : decode cX0_timesBy 37 = .ok (.lload_n 0, 1) := by decide +kernel
theorem dX0_timesBy_38 : decode cX0_timesBy 38 = .ok (.lload 6, 2) := by decide +kernel
theorem dX0_timesBy_40 : decode cX0_timesBy 40 = .ok (.ldiv, 1) := by decide +kernel
theorem dX0_timesBy_41 : decode cX0_timesBy 41 = .ok (.lload_n 2, 1) := by decide +kernel
theorem dX0_timesBy_42 : decode cX0_timesBy 42 = .ok (.lload 8, 2) := by decide +kernel
theorem dX0_timesBy_44 : decode cX0_timesBy 44 = .ok (.ldiv, 1) := by decide +kernel
theorem dX0_timesBy_45 : decode cX0_timesBy 45 = .ok (.invokestatic 32, 3) := by decide +kernel
theorem dX0_timesBy_48 : decode cX0_timesBy 48 = .ok (.lreturn, 1) := by decide +kernel
theorem dX1_init_0 : decode cX1_init 0 = .ok (.aload_n 0, 1) := by decide +kernel
theorem dX1_init_1 : decode cX1_init 1 = .ok (.invokespecial 3, 3) := by decide +kernel
theorem dX1_init_4 : decode cX1_init 4 = .ok (.aload_n 0, 1) := by decide +kernel
theorem dX1_init_5 : decode cX1_init 5 = .ok (.iconst 0, 1) := by decide +kernel
theorem dX1_init_6 : decode cX1_init 6 = .ok (.iload_n 1, 1) := by decide +kernel
theorem dX1_init_7 : decode cX1_init 7 = .ok (.invokestatic 9, 3) := by decide +kernel
theorem dX1_init_10 : decode cX1_init 10 = .ok (.putfield 15, 3) := by decide +kernel
theorem dX1_init_13 : decode cX1_init 13 = .ok (.aload_n 0, 1) := by decide +kernel
theorem dX1_init_14 : decode cX1_init 14 = .ok (.aload_n 0, 1) := by decide +kernel
theorem dX1_init_15 : decode cX1_init 15 = .ok (.getfield 15, 3) := by decide +kernel
theorem dX1_init_18 : decode cX1_init 18 = .ok (.newarray .int, 2) := by decide +kernel
theorem dX1_init_20 : decode cX1_init 20 = .ok (.putfield 21, 3) := by decide +kernel
theorem dX1_init_23 : decode cX1_init 23 = .ok (.aload_n 0, 1) := by decide +kernel
theorem dX1_init_24 : decode cX1_init 24 = .ok (.aload_n 0, 1) := by decide +kernel
theorem dX1_init_25 : decode cX1_init 25 = .ok (.getfield 15, 3) := by decide +kernel
theorem dX1_init_28 : decode cX1_init 28 = .ok (.newarray .int, 2) := by decide +kernel
theorem dX1_init_30 : decode cX1_init 30 = .ok (.putfield 25, 3) := by decide +kernel
theorem dX1_init_33 : decode cX1_init 33 = .ok (.return_, 1) := by decide +kernel
theorem dX1_empty_0 : decode cX1_empty 0 = .ok (.aload_n 0, 1) := by decide +kernel
theorem dX1_empty_1 : decode cX1_empty 1 = .ok (.iconst 0, 1) := by decide +kernel
theorem dX1_empty_2 : decode cX1_empty 2 = .ok (.putfield 28, 3) := by decide +kernel
theorem dX1_empty_5 : decode cX1_empty 5 = .ok (.iconst 0, 1) := by decide +kernel
theorem dX1_empty_6 : decode cX1_empty 6 = .ok (.ireturn, 1) := by decide +kernel
theorem dX1_append_0 : decode cX1_append 0 = .ok (.aload_n 0, 1) := by decide +kernel
theorem dX1_append_1 : decode cX1_append 1 = .ok (.getfield 28, 3) := by decide +kernel
theorem dX1_append_4 : decode cX1_append 4 = .ok (.aload_n 0, 1) := by decide +kernel
theorem dX1_append_5 : decode cX1_append 5 = .ok (.getfield 15, 3) := by decide +kernel
theorem dX1_append_8 : decode cX1_append 8 = .ok (.if_icmp .lt 6, 3) := by decide +kernel
theorem dX1_append_11 : decode cX1_append 11 = .ok (.bipush (-4), 2) := by decide +kernel
theorem dX1_append_13 : decode cX1_append 13 = .ok (.ireturn, 1) := by decide +kernel
theorem dX1_append_14 : decode cX1_append 14 = .ok (.aload_n 0, 1) := by decide +kernel
theorem dX1_append_15 : decode cX1_append 15 = .ok (.getfield 21, 3) := by decide +kernel
theorem dX1_append_18 : decode cX1_append 18 = .ok (.aload_n 0, 1) := by decide +kernel
theorem dX1_append_19 : decode cX1_append 19 = .ok (.getfield 28, 3) := by decide +kernel
theorem dX1_append_22 : decode cX1_append 22 = .ok (.iload_n 1, 1) := by decide +kernel
theorem dX1_append_23 : decode cX1_append 23 = .ok (.iastore, 1) := by decide +kernel
theorem dX1_append_24 : decode cX1_append 24 = .ok (.aload_n 0, 1) := by decide +kernel
theorem dX1_append_25 : decode cX1_append 25 = .ok (.getfield 25, 3) := by decide +kernel
theorem dX1_append_28 : decode cX1_append 28 = .ok (.aload_n 0, 1) := by decide +kernel
theorem dX1_append_29 : decode cX1_append 29 = .ok (.getfield 28, 3) := by decide +kernel
theorem dX1_append_32 : decode cX1_append 32 = .ok (.iload_n 2, 1) := by decide +kernel
theorem dX1_append_33 : decode cX1_append 33 = .ok (.iastore, 1) := by decide +kernel
theorem dX1_append_34 : decode cX1_append 34 = .ok (.aload_n 0, 1) := by decide +kernel
theorem dX1_append_35 : decode cX1_append 35 = .ok (.dup, 1) := by decide +kernel
theorem dX1_append_36 : decode cX1_append 36 = .ok (.getfield 28, 3) := by decide +kernel
theorem dX1_append_39 : decode cX1_append 39 = .ok (.iconst 1, 1) := by decide +kernel
theorem dX1_append_40 : decode cX1_append 40 = .ok (.iadd, 1) := by decide +kernel
theorem dX1_append_41 : decode cX1_append 41 = .ok (.putfield 28, 3) := by decide +kernel
theorem dX1_append_44 : decode cX1_append 44 = .ok (.aload_n 0, 1) := by decide +kernel
theorem dX1_append_45 : decode cX1_append 45 = .ok (.getfield 28, 3) := by decide +kernel
theorem dX1_append_48 : decode cX1_append 48 = .ok (.ireturn, 1) := by decide +kernel
theorem dX1_copyFrom_0 : decode cX1_copyFrom 0 = .ok (.aload_n 0, 1) := by decide +kernel
theorem dX1_copyFrom_1 : decode cX1_copyFrom 1 = .ok (.aload_n 1, 1) := by decide +kernel
theorem dX1_copyFrom_2 : decode cX1_copyFrom 2 = .ok (.getfield 28, 3) := by decide +kernel
theorem dX1_copyFrom_5 : decode cX1_copyFrom 5 = .ok (.aload_n 0, 1) := by decide +kernel
theorem dX1_copyFrom_6 : decode cX1_copyFrom 6 = .ok (.getfield 15, 3) := by decide +kernel
theorem dX1_copyFrom_9 : decode cX1_copyFrom 9 = .ok (.invokestatic 31, 3) := by decide +kernel
theorem dX1_copyFrom_12 : decode cX1_copyFrom 12 = .ok (.putfield 28, 3) := by decide +kernel
theorem dX1_copyFrom_15 : decode cX1_copyFrom 15 = .ok (.iconst 0, 1) := by decide +kernel
theorem dX1_copyFrom_16 : decode cX1_copyFrom 16 = .ok (.istore_n 2, 1) := by decide +kernel
theorem dX1_copyFrom_17 : decode cX1_copyFrom 17 = .ok (.iload_n 2, 1) := by decide +kernel
theorem dX1_copyFrom_18 : decode cX1_copyFrom 18 = .ok (.aload_n 0, 1) := by decide +kernel
theorem dX1_copyFrom_19 : decode cX1_copyFrom 19 = .ok (.getfield 28, 3) := by decide +kernel
theorem dX1_copyFrom_22 : decode cX1_copyFrom 22 = .ok (.if_icmp .ge 33, 3) := by decide +kernel
theorem dX1_copyFrom_25 : decode cX1_copyFrom 25 = .ok (.aload_n 0, 1) := by decide +kernel
theorem dX1_copyFrom_26 : decode cX1_copyFrom 26 = .ok (.getfield 21, 3) := by decide +kernel
theorem dX1_copyFrom_29 : decode cX1_copyFrom 29 = .ok (.iload_n 2, 1) := by decide +kernel
theorem dX1_copyFrom_30 : decode cX1_copyFrom 30 = .ok (.aload_n 1, 1) := by decide +kernel
theorem dX1_copyFrom_31 : decode cX1_copyFrom 31 = .ok (.getfield 21, 3) := by decide +kernel
theorem dX1_copyFrom_34 : decode cX1_copyFrom 34 = .ok (.iload_n 2, 1) := by decide +kernel
theorem dX1_copyFrom_35 : decode cX1_copyFrom 35 = .ok (.iaload, 1) := by decide +kernel
theorem dX1_copyFrom_36 : decode cX1_copyFrom 36 = .ok (.iastore, 1) := by decide +kernel
theorem dX1_copyFrom_37 : decode cX1_copyFrom 37 = .ok (.aload_n 0, 1) := by decide +kernel
theorem dX1_copyFrom_38 : decode cX1_copyFrom 38 = .ok (.getfield 25, 3) := by decide +kernel
theorem dX1_copyFrom_41 : decode cX1_copyFrom 41 = .ok (.iload_n 2, 1) := by decide +kernel
theorem dX1_copyFrom_42 : decode cX1_copyFrom 42 = .ok (.aload_n 1, 1) := by decide +kernel
theorem dX1_copyFrom_43 : decode cX1_copyFrom 43 = .ok (.getfield 25, 3) := by decide +kernel
theorem dX1_copyFrom_46 : decode cX1_copyFrom 46 = .ok (.iload_n 2, 1) := by decide +kernel
theorem dX1_copyFrom_47 : decode cX1_copyFrom 47 = .ok (.iaload, 1) := by decide +kernel
theorem dX1_copyFrom_48 : decode cX1_copyFrom 48 = .ok (.iastore, 1) := by decide +kernel
theorem dX1_copyFrom_49 : decode cX1_copyFrom 49 = .ok (.iinc 2 1, 3) := by decide +kernel
theorem dX1_copyFrom_52 : decode cX1_copyFrom 52 = .ok (.goto (-35), 3) := by decide +kernel
theorem dX1_copyFrom_55 : decode cX1_copyFrom 55 = .ok (.return_, 1) := by decide +kernel
theorem dX2_init_0 : decode cX2_init 0 = .ok (.aload_n 0, 1) := by decide +kernel
theorem dX2_init_1 : decode cX2_init 1 = .ok (.invokespecial 3, 3) := by decide +kernel
theorem dX2_init_4 : decode cX2_init 4 = .ok (.aload_n 0, 1) := by decide +kernel
theorem dX2_init_5 : decode cX2_init 5 = .ok (.new 9, 3) := by decide +kernel
theorem dX2_init_8 : decode cX2_init 8 = .ok (.dup, 1) := by decide +kernel
theorem dX2_init_9 : decode cX2_init 9 = .ok (.invokespecial 11, 3) := by decide +kernel
theorem dX2_init_12 : decode cX2_init 12 = .ok (.putfield 12, 3) := by decide +kernel
theorem dX2_init_15 : decode cX2_init 15 = .ok (.aload_n 0, 1) := by decide +kernel
theorem dX2_init_16 : decode cX2_init 16 = .ok (.new 18, 3) := by decide +kernel
theorem dX2_init_19 : decode cX2_init 19 = .ok (.dup, 1) := by decide +kernel
theorem dX2_init_20 : decode cX2_init 20 = .ok (.invokespecial 20, 3) := by decide +kernel
theorem dX2_init_23 : decode cX2_init 23 = .ok (.putfield 21, 3) := by decide +kernel
theorem dX2_init_26 : decode cX2_init 26 = .ok (.aload_n 0, 1) := by decide +kernel
theorem dX2_init_27 : decode cX2_init 27 = .ok (.new 25, 3) := by decide +kernel
theorem dX2_init_30 : decode cX2_init 30 = .ok (.dup, 1) := by decide +kernel
theorem dX2_init_31 : decode cX2_init 31 = .ok (.iconst 5, 1) := by decide +kernel
theorem dX2_init_32 : decode cX2_init 32 = .ok (.invokespecial 27, 3) := by decide +kernel
theorem dX2_init_35 : decode cX2_init 35 = .ok (.putfield 30, 3) := by decide +kernel
theorem dX2_init_38 : decode cX2_init 38 = .ok (.aload_n 0, 1) := by decide +kernel
theorem dX2_init_39 : decode cX2_init 39 = .ok (.new 25, 3) := by decide +kernel
theorem dX2_init_42 : decode cX2_init 42 = .ok (.dup, 1) := by decide +kernel
theorem dX2_init_43 : decode cX2_init 43 = .ok (.bipush 8, 2) := by decide +kernel
theorem dX2_init_45 : decode cX2_init 45 = .ok (.invokespecial 27, 3) := by decide +kernel
theorem dX2_init_48 : decode cX2_init 48 = .ok (.putfield 34, 3) := by decide +kernel
theorem dX2_init_51 : decode cX2_init 51 = .ok (.aload_n 0, 1) := by decide +kernel
theorem dX2_init_52 : decode cX2_init 52 = .ok (.new 25, 3) := by decide +kernel
theorem dX2_init_55 : decode cX2_init 55 = .ok (.dup, 1) := by decide +kernel
theorem dX2_init_56 : decode cX2_init 56 = .ok (.bipush 8, 2) := by decide +kernel
theorem dX2_init_58 : decode cX2_init 58 = .ok (.invokespecial 27, 3) := by decide +kernel
theorem dX2_init_61 : decode cX2_init 61 = .ok (.putfield 37, 3) := by decide +kernel
theorem dX2_init_64 : decode cX2_init 64 = .ok (.return_, 1) := by decide +kernel
theorem dX2_become_0 : decode cX2_become 0 = .ok (.aload_n 0, 1) := by decide +kernel
theorem dX2_become_1 : decode cX2_become 1 = .ok (.getfield 12, 3) := by decide +kernel
theorem dX2_become_4 : decode cX2_become 4 = .ok (.iload_n 1, 1) := by decide +kernel
theorem dX2_become_5 : decode cX2_become 5 = .ok (.iload_n 2, 1) := by decide +kernel
theorem dX2_become_6 : decode cX2_become 6 = .ok (.invokevirtual 40, 3) := by decide +kernel
theorem dX2_become_9 : decode cX2_become 9 = .ok (.aload_n 0, 1) := by decide +kernel
theorem dX2_become_10 : decode cX2_become 10 = .ok (.getfield 21, 3) := by decide +kernel
theorem dX2_become_13 : decode cX2_become 13 = .ok (.aload_n 0, 1) := by decide +kernel
theorem dX2_become_14 : decode cX2_become 14 = .ok (.getfield 12, 3) := by decide +kernel
theorem dX2_become_17 : decode cX2_become 17 = .ok (.invokevirtual 44, 3) := by decide +kernel
theorem dX2_become_20 : decode cX2_become 20 = .ok (.aload_n 0, 1) := by decide +kernel
theorem dX2_become_21 : decode cX2_become 21 = .ok (.getfield 30, 3) := by decide +kernel
theorem dX2_become_24 : decode cX2_become 24 = .ok (.invokevirtual 48, 3) := by decide +kernel
theorem dX2_become_27 : decode cX2_become 27 = .ok (.pop, 1) := by decide +kernel
theorem dX2_become_28 : decode cX2_become 28 = .ok (.aload_n 0, 1) := by decide +kernel
theorem dX2_become_29 : decode cX2_become 29 = .ok (.getfield 34, 3) := by decide +kernel
theorem dX2_become_32 : decode cX2_become 32 = .ok (.invokevirtual 48, 3) := by decide +kernel
theorem dX2_become_35 : decode cX2_become 35 = .ok (.pop, 1) := by decide +kernel
theorem dX2_become_36 : decode cX2_become 36 = .ok (.aload_n 0, 1) := by decide +kernel
theorem dX2_become_37 : decode cX2_become 37 = .ok (.getfield 37, 3) := by decide +kernel
theorem dX2_become_40 : decode cX2_become 40 = .ok (.invokevirtual 48, 3) := by decide +kernel
theorem dX2_become_43 : decode cX2_become 43 = .ok (.pop, 1) := by decide +kernel
theorem dX2_become_44 : decode cX2_become 44 = .ok (.return_, 1) := by decide +kernel
theorem dX2_copyFrom_0 : decode cX2_copyFrom 0 = .ok (.aload_n 0, 1) := by decide +kernel
theorem dX2_copyFrom_1 : decode cX2_copyFrom 1 = .ok (.getfield 12, 3) := by decide +kernel
theorem dX2_copyFrom_4 : decode cX2_copyFrom 4 = .ok (.aload_n 1, 1) := by decide +kernel
theorem dX2_copyFrom_5 : decode cX2_copyFrom 5 = .ok (.getfield 12, 3) := by decide +kernel
theorem dX2_copyFrom_8 : decode cX2_copyFrom 8 = .ok (.invokevirtual 52, 3) := by decide +kernel
theorem dX2_copyFrom_11 : decode cX2_copyFrom 11 = .ok (.aload_n 0, 1) := by decide +kernel
theorem dX2_copyFrom_12 : decode cX2_copyFrom 12 = .ok (.getfield 21, 3) := by decide +kernel
theorem dX2_copyFrom_15 : decode cX2_copyFrom 15 = .ok (.aload_n 1, 1) := by decide +kernel
theorem dX2_copyFrom_16 : decode cX2_copyFrom 16 = .ok (.getfield 21, 3) := by decide +kernel
theorem dX2_copyFrom_19 : decode cX2_copyFrom 19 = .ok (.invokevirtual 55, 3) := by decide +kernel
theorem dX2_copyFrom_22 : decode cX2_copyFrom 22 = .ok (.aload_n 0, 1) := by decide +kernel
theorem dX2_copyFrom_23 : decode cX2_copyFrom 23 = .ok (.getfield 30, 3) := by decide +kernel
theorem dX2_copyFrom_26 : decode cX2_copyFrom 26 = .ok (.aload_n 1, 1) := by decide +kernel
theorem dX2_copyFrom_27 : decode cX2_copyFrom 27 = .ok (.getfield 30, 3) := by decide +kernel
theorem dX2_copyFrom_30 : decode cX2_copyFrom 30 = .ok (.invokevirtual 58, 3) := by decide +kernel
theorem dX2_copyFrom_33 : decode cX2_copyFrom 33 = .ok (.aload_n 0, 1) := by decide +kernel
theorem dX2_copyFrom_34 : decode cX2_copyFrom 34 = .ok (.getfield 34, 3) := by decide +kernel
theorem dX2_copyFrom_37 : decode cX2_copyFrom 37 = .ok (.aload_n 1, 1) := by decide +kernel
theorem dX2_copyFrom_38 : decode cX2_copyFrom 38 = .ok (.getfield 34, 3) := by decide +kernel
theorem dX2_copyFrom_41 : decode cX2_copyFrom 41 = .ok (.invokevirtual 58, 3) := by decide +kernel
theorem dX2_copyFrom_44 : decode cX2_copyFrom 44 = .ok (.aload_n 0, 1) := by decide +kernel
theorem dX2_copyFrom_45 : decode cX2_copyFrom 45 = .ok (.getfield 37, 3) := by decide +kernel
theorem dX2_copyFrom_48 : decode cX2_copyFrom 48 = .ok (.aload_n 1, 1) := by decide +kernel
theorem dX2_copyFrom_49 : decode cX2_copyFrom 49 = .ok (.getfield 37, 3) := by decide +kernel
theorem dX2_copyFrom_52 : decode cX2_copyFrom 52 = .ok (.invokevirtual 58, 3) := by decide +kernel
theorem dX2_copyFrom_55 : decode cX2_copyFrom 55 = .ok (.return_, 1) := by decide +kernel
theorem dX3_init_0 : decode cX3_init 0 = .ok (.aload_n 0, 1) := by decide +kernel
theorem dX3_init_1 : decode cX3_init 1 = .ok (.invokespecial 3, 3) := by decide +kernel
theorem dX3_init_4 : decode cX3_init 4 = .ok (.aload_n 0, 1) := by decide +kernel
theorem dX3_init_5 : decode cX3_init 5 = .ok (.iconst 4, 1) := by decide +kernel
theorem dX3_init_6 : decode cX3_init 6 = .ok (.newarray .long, 2) := by decide +kernel
theorem dX3_init_8 : decode cX3_init 8 = .ok (.putfield 11, 3) := by decide +kernel
theorem dX3_init_11 : decode cX3_init 11 = .ok (.aload_n 0, 1) := by decide +kernel
theorem dX3_init_12 : decode cX3_init 12 = .ok (.iconst 4, 1) := by decide +kernel
theorem dX3_init_13 : decode cX3_init 13 = .ok (.newarray .long, 2) := by decide +kernel
theorem dX3_init_15 : decode cX3_init 15 = .ok (.putfield 15, 3) := by decide +kernel
theorem dX3_init_18 : decode cX3_init 18 = .ok (.return_, 1) := by decide +kernel
theorem dX3_clear_0 : decode cX3_clear 0 = .ok (.aload_n 0, 1) := by decide +kernel
theorem dX3_clear_1 : decode cX3_clear 1 = .ok (.iconst 0, 1) := by decide +kernel
theorem dX3_clear_2 : decode cX3_clear 2 = .ok (.putfield 18, 3) := by decide +kernel
theorem dX3_clear_5 : decode cX3_clear 5 = .ok (.aload_n 0, 1) := by decide +kernel
theorem dX3_clear_6 : decode cX3_clear 6 = .ok (.iconst 0, 1) := by decide +kernel
theorem dX3_clear_7 : decode cX3_clear 7 = .ok (.putfield 22, 3) := by decide +kernel
theorem dX3_clear_10 : decode cX3_clear 10 = .ok (.return_, 1) := by decide +kernel
theorem dX3_times_0 : decode cX3_times 0 = .ok (.aload_n 0, 1) := by decide +kernel
theorem dX3_times_1 : decode cX3_times 1 = .ok (.aload_n 1, 1) := by decide +kernel
theorem dX3_times_2 : decode cX3_times 2 = .ok (.getfield 26, 3) := by decide +kernel
theorem dX3_times_5 : decode cX3_times 5 = .ok (.iload_n 2, 1) := by decide +kernel
theorem dX3_times_6 : decode cX3_times 6 = .ok (.laload, 1) := by decide +kernel
theorem dX3_times_7 : decode cX3_times 7 = .ok (.aload_n 1, 1) := by decide +kernel
theorem dX3_times_8 : decode cX3_times 8 = .ok (.getfield 29, 3) := by decide +kernel
theorem dX3_times_11 : decode cX3_times 11 = .ok (.iload_n 2, 1) := by decide +kernel
theorem dX3_times_12 : decode cX3_times 12 = .ok (.laload, 1) := by decide +kernel
theorem dX3_times_13 : decode cX3_times 13 = .ok (.invokevirtual 30, 3) := by decide +kernel
theorem dX3_times_16 : decode cX3_times 16 = .ok (.return_, 1) := by decide +kernel
theorem dX3_by_0 : decode cX3_by 0 = .ok (.aload_n 0, 1) := by decide +kernel
theorem dX3_by_1 : decode cX3_by 1 = .ok (.aload_n 1, 1) := by decide +kernel
theorem dX3_by_2 : decode cX3_by 2 = .ok (.getfield 29, 3) := by decide +kernel
theorem dX3_by_5 : decode cX3_by 5 = .ok (.iload_n 2, 1) := by decide +kernel
theorem dX3_by_6 : decode cX3_by 6 = .ok (.laload, 1) := by decide +kernel
theorem dX3_by_7 : decode cX3_by 7 = .ok (.aload_n 1, 1) := by decide +kernel
theorem dX3_by_8 : decode cX3_by 8 = .ok (.getfield 26, 3) := by decide +kernel
theorem dX3_by_11 : decode cX3_by 11 = .ok (.iload_n 2, 1) := by decide +kernel
theorem dX3_by_12 : decode cX3_by 12 = .ok (.laload, 1) := by decide +kernel
theorem dX3_by_13 : decode cX3_by 13 = .ok (.invokevirtual 30, 3) := by decide +kernel
theorem dX3_by_16 : decode cX3_by 16 = .ok (.return_, 1) := by decide +kernel
theorem dX3_append_0 : decode cX3_append 0 = .ok (.aload_n 0, 1) := by decide +kernel
theorem dX3_append_1 : decode cX3_append 1 = .ok (.getfield 18, 3) := by decide +kernel
theorem dX3_append_4 : decode cX3_append 4 = .ok (.iconst 4, 1) := by decide +kernel
theorem dX3_append_5 : decode cX3_append 5 = .ok (.if_icmp .lt 4, 3) := by decide +kernel
theorem dX3_append_8 : decode cX3_append 8 = .ok (.return_, 1) := by decide +kernel
theorem dX3_append_9 : decode cX3_append 9 = .ok (.aload_n 0, 1) := by decide +kernel
theorem dX3_append_10 : decode cX3_append 10 = .ok (.getfield 11, 3) := by decide +kernel
theorem dX3_append_13 : decode cX3_append 13 = .ok (.aload_n 0, 1) := by decide +kernel
theorem dX3_append_14 : decode cX3_append 14 = .ok (.getfield 18, 3) := by decide +kernel
theorem dX3_append_17 : decode cX3_append 17 = .ok (.lload_n 1, 1) := by decide +kernel
theorem dX3_append_18 : decode cX3_append 18 = .ok (.lastore, 1) := by decide +kernel
theorem dX3_append_19 : decode cX3_append 19 = .ok (.aload_n 0, 1) := by decide +kernel
theorem dX3_append_20 : decode cX3_append 20 = .ok (.getfield 15, 3) := by decide +kernel
theorem dX3_append_23 : decode cX3_append 23 = .ok (.aload_n 0, 1) := by decide +kernel
theorem dX3_append_24 : decode cX3_append 24 = .ok (.getfield 18, 3) := by decide +kernel
theorem dX3_append_27 : decode cX3_append 27 = .ok (.lload_n 3, 1) := by decide +kernel
theorem dX3_append_28 : decode cX3_append 28 = .ok (.lastore, 1) := by decide +kernel
theorem dX3_append_29 : decode cX3_append 29 = .ok (.aload_n 0, 1) := by decide +kernel
theorem dX3_append_30 : decode cX3_append 30 = .ok (.dup, 1) := by decide +kernel
theorem dX3_append_31 : decode cX3_append 31 = .ok (.getfield 18, 3) := by decide +kernel
theorem dX3_append_34 : decode cX3_append 34 = .ok (.iconst 1, 1) := by decide +kernel
theorem dX3_append_35 : decode cX3_append 35 = .ok (.iadd, 1) := by decide +kernel
theorem dX3_append_36 : decode cX3_append 36 = .ok (.putfield 18, 3) := by decide +kernel
theorem dX3_append_39 : decode cX3_append 39 = .ok (.lload_n 3, 1) := by decide +kernel
theorem dX3_append_40 : decode cX3_append 40 = .ok (.lconst 0, 1) := by decide +kernel
theorem dX3_append_41 : decode cX3_append 41 = .ok (.lcmp, 1) := by decide +kernel
theorem dX3_append_42 : decode cX3_append 42 = .ok (.ifCond .ne 8, 3) := by decide +kernel
theorem dX3_append_45 : decode cX3_append 45 = .ok (.aload_n 0, 1) := by decide +kernel
theorem dX3_append_46 : decode cX3_append 46 = .ok (.iconst 1, 1) := by decide +kernel
theorem dX3_append_47 : decode cX3_append 47 = .ok (.putfield 22, 3) := by decide +kernel
theorem dX3_append_50 : decode cX3_append 50 = .ok (.return_, 1) := by decide +kernel
theorem dX3_partOf_0 : decode cX3_partOf 0 = .ok (.aload_n 0, 1) := by decide +kernel
theorem dX3_partOf_1 : decode cX3_partOf 1 = .ok (.getfield 22, 3) := by decide +kernel
theorem dX3_partOf_4 : decode cX3_partOf 4 = .ok (.ifCond .eq 7, 3) := by decide +kernel
theorem dX3_partOf_7 : decode cX3_partOf 7 = .ok (.ldc2_w 34, 3) := by decide +kernel
theorem dX3_partOf_10 : decode cX3_partOf 10 = .ok (.lreturn, 1) := by decide +kernel
theorem dX3_partOf_11 : decode cX3_partOf 11 = .ok (.aload_n 0, 1) := by decide +kernel
theorem dX3_partOf_12 : decode cX3_partOf 12 = .ok (.invokevirtual 36, 3) := by decide +kernel
theorem dX3_partOf_15 : decode cX3_partOf 15 = .ok (.aload_n 0, 1) := by decide +kernel
theorem dX3_partOf_16 : decode cX3_partOf 16 = .ok (.aload_n 0, 1) := by decide +kernel
theorem dX3_partOf_17 : decode cX3_partOf 17 = .ok (.getfield 11, 3) := by decide +kernel
theorem dX3_partOf_20 : decode cX3_partOf 20 = .ok (.invokevirtual 39, 3) := by decide +kernel
theorem dX3_partOf_23 : decode cX3_partOf 23 = .ok (.lstore_n 2, 1) := by decide +kernel
theorem dX3_partOf_24 : decode cX3_partOf 24 = .ok (.aload_n 0, 1) := by decide +kernel
theorem dX3_partOf_25 : decode cX3_partOf 25 = .ok (.aload_n 0, 1) := by decide +kernel
theorem dX3_partOf_26 : decode cX3_partOf 26 = .ok (.getfield 15, 3) := by decide +kernel
theorem dX3_partOf_29 : decode cX3_partOf 29 = .ok (.invokevirtual 39, 3) := by decide +kernel
theorem dX3_partOf_32 : decode cX3_partOf 32 = .ok (.lstore 4, 2) := by decide +kernel
theorem dX3_partOf_34 : decode cX3_partOf 34 = .ok (.lload_n 2, 1) := by decide +kernel
theorem dX3_partOf_35 : decode cX3_partOf 35 = .ok (.ldc2_w 34, 3) := by decide +kernel
theorem dX3_partOf_38 : decode cX3_partOf 38 = .ok (.lcmp, 1) := by decide +kernel
theorem dX3_partOf_39 : decode cX3_partOf 39 = .ok (.ifCond .eq 12, 3) := by decide +kernel
theorem dX3_partOf_42 : decode cX3_partOf 42 = .ok (.lload 4, 2) := by decide +kernel
theorem dX3_partOf_44 : decode cX3_partOf 44 = .ok (.ldc2_w 34, 3) := by decide +kernel
theorem dX3_partOf_47 : decode cX3_partOf 47 = .ok (.lcmp, 1) := by decide +kernel
theorem dX3_partOf_48 : decode cX3_partOf 48 = .ok (.ifCond .ne 7, 3) := by decide +kernel
theorem dX3_partOf_51 : decode cX3_partOf 51 = .ok (.ldc2_w 34, 3) := by decide +kernel
theorem dX3_partOf_54 : decode cX3_partOf 54 = .ok (.lreturn, 1) := by decide +kernel
theorem dX3_partOf_55 : decode cX3_partOf 55 = .ok (.iload_n 1, 1) := by decide +kernel
theorem dX3_partOf_56 : decode cX3_partOf 56 = .ok (.ifCond .ne 7, 3) := by decide +kernel
theorem dX3_partOf_59 : decode cX3_partOf 59 = .ok (.lload_n 2, 1) := by decide +kernel
theorem dX3_partOf_60 : decode cX3_partOf 60 = .ok (.goto 5, 3) := by decide +kernel
theorem dX3_partOf_63 : decode cX3_partOf 63 = .ok (.lload 4, 2) := by decide +kernel
theorem dX3_partOf_65 : decode cX3_partOf 65 = .ok (.lreturn, 1) := by decide +kernel
theorem dX3_cancel_0 : decode cX3_cancel 0 = .ok (.iconst 0, 1) := by decide +kernel
theorem dX3_cancel_1 : decode cX3_cancel 1 = .ok (.istore_n 1, 1) := by decide +kernel
theorem dX3_cancel_2 : decode cX3_cancel 2 = .ok (.iload_n 1, 1) := by decide +kernel
theorem dX3_cancel_3 : decode cX3_cancel 3 = .ok (.aload_n 0, 1) := by decide +kernel
theorem dX3_cancel_4 : decode cX3_cancel 4 = .ok (.getfield 18, 3) := by decide +kernel
theorem dX3_cancel_7 : decode cX3_cancel 7 = .ok (.if_icmp .ge 67, 3) := by decide +kernel
theorem dX3_cancel_10 : decode cX3_cancel 10 = .ok (.iconst 0, 1) := by decide +kernel
theorem dX3_cancel_11 : decode cX3_cancel 11 = .ok (.istore_n 2, 1) := by decide +kernel
theorem dX3_cancel_12 : decode cX3_cancel 12 = .ok (.iload_n 2, 1) := by decide +kernel
theorem dX3_cancel_13 : decode cX3_cancel 13 = .ok (.aload_n 0, 1) := by decide +kernel
theorem dX3_cancel_14 : decode cX3_cancel 14 = .ok (.getfield 18, 3) := by decide +kernel
theorem dX3_cancel_17 : decode cX3_cancel 17 = .ok (.if_icmp .ge 51, 3) := by decide +kernel
theorem dX3_cancel_20 : decode cX3_cancel 20 = .ok (.aload_n 0, 1) := by decide +kernel
theorem dX3_cancel_21 : decode cX3_cancel 21 = .ok (.getfield 11, 3) := by decide +kernel
theorem dX3_cancel_24 : decode cX3_cancel 24 = .ok (.iload_n 1, 1) := by decide +kernel
theorem dX3_cancel_25 : decode cX3_cancel 25 = .ok (.laload, 1) := by decide +kernel
theorem dX3_cancel_26 : decode cX3_cancel 26 = .ok (.aload_n 0, 1) := by decide +kernel
theorem dX3_cancel_27 : decode cX3_cancel 27 = .ok (.getfield 15, 3) := by decide +kernel
theorem dX3_cancel_30 : decode cX3_cancel 30 = .ok (.iload_n 2, 1) := by decide +kernel
theorem dX3_cancel_31 : decode cX3_cancel 31 = .ok (.laload, 1) := by decide +kernel
theorem dX3_cancel_32 : decode cX3_cancel 32 = .ok (.invokestatic 43, 3) := by decide +kernel
theorem dX3_cancel_35 : decode cX3_cancel 35 = .ok (.lstore_n 3, 1) := by decide +kernel
theorem dX3_cancel_36 : decode cX3_cancel 36 = .ok (.lload_n 3, 1) := by decide +kernel
theorem dX3_cancel_37 : decode cX3_cancel 37 = .ok (.lconst 1, 1) := by decide +kernel
theorem dX3_cancel_38 : decode cX3_cancel 38 = .ok (.lcmp, 1) := by decide +kernel
theorem dX3_cancel_39 : decode cX3_cancel 39 = .ok (.ifCond .le 23, 3) := by decide +kernel
theorem dX3_cancel_42 : decode cX3_cancel 42 = .ok (.aload_n 0, 1) := by decide +kernel
theorem dX3_cancel_43 : decode cX3_cancel 43 = .ok (.getfield 11, 3) := by decide +kernel
theorem dX3_cancel_46 : decode cX3_cancel 46 = .ok (.iload_n 1, 1) := by decide +kernel
theorem dX3_cancel_47 : decode cX3_cancel 47 = .ok (.dup2, 1) := by decide +kernel
theorem dX3_cancel_48 : decode cX3_cancel 48 = .ok (.laload, 1) := by decide +kernel
theorem dX3_cancel_49 : decode cX3_cancel 49 = .ok (.lload_n 3, 1) := by decide +kernel
theorem dX3_cancel_50 : decode cX3_cancel 50 = .ok (.ldiv, 1) := by decide +kernel
theorem dX3_cancel_51 : decode cX3_cancel 51 = .ok (.lastore, 1) := by decide +kernel
theorem dX3_cancel_52 : decode cX3_cancel 52 = .ok (.aload_n 0, 1) := by decide +kernel
theorem dX3_cancel_53 : decode cX3_cancel 53 = .ok (.getfield 15, 3) := by decide +kernel
theorem dX3_cancel_56 : decode cX3_cancel 56 = .ok (.iload_n 2, 1) := by decide +kernel
theorem dX3_cancel_57 : decode cX3_cancel 57 = .ok (.dup2, 1) := by decide +kernel
theorem dX3_cancel_58 : decode cX3_cancel 58 = .ok (.laload, 1) := by decide +kernel
theorem dX3_cancel_59 : decode cX3_cancel 59 = .ok (.lload_n 3, 1) := by decide +kernel
theorem dX3_cancel_60 : decode cX3_cancel 60 = .ok (.ldiv, 1) := by decide +kernel
theorem dX3_cancel_61 : decode cX3_cancel 61 = .ok (.lastore, 1) := by decide +kernel
theorem dX3_cancel_62 : decode cX3_cancel 62 = .ok (.iinc 2 1, 3) := by decide +kernel
theorem dX3_cancel_65 : decode cX3_cancel 65 = .ok (.goto (-53), 3) := by decide +kernel
theorem dX3_cancel_68 : decode cX3_cancel 68 = .ok (.iinc 1 1, 3) := by decide +kernel
theorem dX3_cancel_71 : decode cX3_cancel 71 = .ok (.goto (-69), 3) := by decide +kernel
theorem dX3_cancel_74 : decode cX3_cancel 74 = .ok (.return_, 1) := by decide +kernel
theorem dX3_productOf_0 : decode cX3_productOf 0 = .ok (.lconst 1, 1) := by decide +kernel
theorem dX3_productOf_1 : decode cX3_productOf 1 = .ok (.lstore_n 2, 1) := by decide +kernel
theorem dX3_productOf_2 : decode cX3_productOf 2 = .ok (.iconst 0, 1) := by decide +kernel
theorem dX3_productOf_3 : decode cX3_productOf 3 = .ok (.istore 4, 2) := by decide +kernel
theorem dX3_productOf_5 : decode cX3_productOf 5 = .ok (.iload 4, 2) := by decide +kernel
theorem dX3_productOf_7 : decode cX3_productOf 7 = .ok (.aload_n 0, 1) := by decide +kernel
theorem dX3_productOf_8 : decode cX3_productOf 8 = .ok (.getfield 18, 3) := by decide +kernel
theorem dX3_productOf_11 : decode cX3_productOf 11 = .ok (.if_icmp .ge 26, 3) := by decide +kernel
theorem dX3_productOf_14 : decode cX3_productOf 14 = .ok (.lload_n 2, 1) := by decide +kernel
theorem dX3_productOf_15 : decode cX3_productOf 15 = .ok (.ldc2_w 34, 3) := by decide +kernel
theorem dX3_productOf_18 : decode cX3_productOf 18 = .ok (.lcmp, 1) := by decide +kernel
theorem dX3_productOf_19 : decode cX3_productOf 19 = .ok (.ifCond .eq 12, 3) := by decide +kernel
theorem dX3_productOf_22 : decode cX3_productOf 22 = .ok (.lload_n 2, 1) := by decide +kernel
theorem dX3_productOf_23 : decode cX3_productOf 23 = .ok (.aload_n 1, 1) := by decide +kernel
theorem dX3_productOf_24 : decode cX3_productOf 24 = .ok (.iload 4, 2) := by decide +kernel
theorem dX3_productOf_26 : decode cX3_productOf 26 = .ok (.laload, 1) := by decide +kernel
theorem dX3_productOf_27 : decode cX3_productOf 27 = .ok (.invokestatic 49, 3) := by decide +kernel
theorem dX3_productOf_30 : decode cX3_productOf 30 = .ok (.lstore_n 2, 1) := by decide +kernel
theorem dX3_productOf_31 : decode cX3_productOf 31 = .ok (.iinc 4 1, 3) := by decide +kernel
theorem dX3_productOf_34 : decode cX3_productOf 34 = .ok (.goto (-29), 3) := by decide +kernel
theorem dX3_productOf_37 : decode cX3_productOf 37 = .ok (.lload_n 2, 1) := by decide +kernel
theorem dX3_productOf_38 : decode cX3_productOf 38 = .ok (.lreturn, 1) := by decide +kernel
theorem dX4_init_0 : decode cX4_init 0 = .ok (.aload_n 0, 1) := by decide +kernel
theorem dX4_init_1 : decode cX4_init 1 = .ok (.invokespecial 3, 3) := by decide +kernel
theorem dX4_init_4 : decode cX4_init 4 = .ok (.aload_n 0, 1) := by decide +kernel
theorem dX4_init_5 : decode cX4_init 5 = .ok (.bipush 9, 2) := by decide +kernel
theorem dX4_init_7 : decode cX4_init 7 = .ok (.newarray .int, 2) := by decide +kernel
theorem dX4_init_9 : decode cX4_init 9 = .ok (.putfield 9, 3) := by decide +kernel
theorem dX4_init_12 : decode cX4_init 12 = .ok (.aload_n 0, 1) := by decide +kernel
theorem dX4_init_13 : decode cX4_init 13 = .ok (.bipush 9, 2) := by decide +kernel
theorem dX4_init_15 : decode cX4_init 15 = .ok (.newarray .int, 2) := by decide +kernel
theorem dX4_init_17 : decode cX4_init 17 = .ok (.putfield 15, 3) := by decide +kernel
theorem dX4_init_20 : decode cX4_init 20 = .ok (.aload_n 0, 1) := by decide +kernel
theorem dX4_init_21 : decode cX4_init 21 = .ok (.bipush 9, 2) := by decide +kernel
theorem dX4_init_23 : decode cX4_init 23 = .ok (.newarray .int, 2) := by decide +kernel
theorem dX4_init_25 : decode cX4_init 25 = .ok (.putfield 18, 3) := by decide +kernel
theorem dX4_init_28 : decode cX4_init 28 = .ok (.aload_n 0, 1) := by decide +kernel
theorem dX4_init_29 : decode cX4_init 29 = .ok (.bipush 7, 2) := by decide +kernel
theorem dX4_init_31 : decode cX4_init 31 = .ok (.newarray .int, 2) := by decide +kernel
theorem dX4_init_33 : decode cX4_init 33 = .ok (.putfield 21, 3) := by decide +kernel
theorem dX4_init_36 : decode cX4_init 36 = .ok (.aload_n 0, 1) := by decide +kernel
theorem dX4_init_37 : decode cX4_init 37 = .ok (.bipush 7, 2) := by decide +kernel
theorem dX4_init_39 : decode cX4_init 39 = .ok (.newarray .int, 2) := by decide +kernel
theorem dX4_init_41 : decode cX4_init 41 = .ok (.putfield 24, 3) := by decide +kernel
theorem dX4_init_44 : decode cX4_init 44 = .ok (.aload_n 0, 1) := by decide +kernel
theorem dX4_init_45 : decode cX4_init 45 = .ok (.new 27, 3) := by decide +kernel
theorem dX4_init_48 : decode cX4_init 48 = .ok (.dup, 1) := by decide +kernel
theorem dX4_init_49 : decode cX4_init 49 = .ok (.invokespecial 29, 3) := by decide +kernel
theorem dX4_init_52 : decode cX4_init 52 = .ok (.putfield 30, 3) := by decide +kernel
theorem dX4_init_55 : decode cX4_init 55 = .ok (.aload_n 0, 1) := by decide +kernel
theorem dX4_init_56 : decode cX4_init 56 = .ok (.new 27, 3) := by decide +kernel
theorem dX4_init_59 : decode cX4_init 59 = .ok (.dup, 1) := by decide +kernel
theorem dX4_init_60 : decode cX4_init 60 = .ok (.invokespecial 29, 3) := by decide +kernel
theorem dX4_init_63 : decode cX4_init 63 = .ok (.putfield 34, 3) := by decide +kernel
theorem dX4_init_66 : decode cX4_init 66 = .ok (.return_, 1) := by decide +kernel
theorem dX4_isFound_0 : decode cX4_isFound 0 = .ok (.aload_n 0, 1) := by decide +kernel
theorem dX4_isFound_1 : decode cX4_isFound 1 = .ok (.aload_n 1, 1) := by decide +kernel
theorem dX4_isFound_2 : decode cX4_isFound 2 = .ok (.getfield 37, 3) := by decide +kernel
theorem dX4_isFound_5 : decode cX4_isFound 5 = .ok (.putfield 43, 3) := by decide +kernel
theorem dX4_isFound_8 : decode cX4_isFound 8 = .ok (.aload_n 0, 1) := by decide +kernel
theorem dX4_isFound_9 : decode cX4_isFound 9 = .ok (.aload_n 1, 1) := by decide +kernel
theorem dX4_isFound_10 : decode cX4_isFound 10 = .ok (.getfield 44, 3) := by decide +kernel
theorem dX4_isFound_13 : decode cX4_isFound 13 = .ok (.putfield 47, 3) := by decide +kernel
theorem dX4_isFound_16 : decode cX4_isFound 16 = .ok (.aload_n 0, 1) := by decide +kernel
theorem dX4_isFound_17 : decode cX4_isFound 17 = .ok (.aload_n 1, 1) := by decide +kernel
theorem dX4_isFound_18 : decode cX4_isFound 18 = .ok (.aload_n 2, 1) := by decide +kernel
theorem dX4_isFound_19 : decode cX4_isFound 19 = .ok (.invokevirtual 48, 3) := by decide +kernel
theorem dX4_isFound_22 : decode cX4_isFound 22 = .ok (.ifCond .ne 5, 3) := by decide +kernel
theorem dX4_isFound_25 : decode cX4_isFound 25 = .ok (.iconst 0, 1) := by decide +kernel
theorem dX4_isFound_26 : decode cX4_isFound 26 = .ok (.ireturn, 1) := by decide +kernel
theorem dX4_isFound_27 : decode cX4_isFound 27 = .ok (.aload_n 0, 1) := by decide +kernel
theorem dX4_isFound_28 : decode cX4_isFound 28 = .ok (.aload_n 2, 1) := by decide +kernel
theorem dX4_isFound_29 : decode cX4_isFound 29 = .ok (.invokevirtual 52, 3) := by decide +kernel
theorem dX4_isFound_32 : decode cX4_isFound 32 = .ok (.aload_n 0, 1) := by decide +kernel
theorem dX4_isFound_33 : decode cX4_isFound 33 = .ok (.iconst 0, 1) := by decide +kernel
theorem dX4_isFound_34 : decode cX4_isFound 34 = .ok (.iconst 0, 1) := by decide +kernel
theorem dX4_isFound_35 : decode cX4_isFound 35 = .ok (.invokestatic 56, 3) := by decide +kernel
theorem dX4_isFound_38 : decode cX4_isFound 38 = .ok (.ireturn, 1) := by decide +kernel
theorem dX4_areSumsBounded_0 : decode cX4_areSumsBounded 0 = .ok (.aload_n 0, 1) := by decide +kernel
theorem dX4_areSumsBounded_1 : decode cX4_areSumsBounded 1 = .ok (.getfield 34, 3) := by decide +kernel
theorem dX4_areSumsBounded_4 : decode cX4_areSumsBounded 4 = .ok (.lconst 0, 1) := by decide +kernel
theorem dX4_areSumsBounded_5 : decode cX4_areSumsBounded 5 = .ok (.lconst 1, 1) := by decide +kernel
theorem dX4_areSumsBounded_6 : decode cX4_areSumsBounded 6 = .ok (.invokevirtual 60, 3) := by decide +kernel
theorem dX4_areSumsBounded_9 : decode cX4_areSumsBounded 9 = .ok (.iconst 0, 1) := by decide +kernel
theorem dX4_areSumsBounded_10 : decode cX4_areSumsBounded 10 = .ok (.istore_n 3, 1) := by decide +kernel
theorem dX4_areSumsBounded_11 : decode cX4_areSumsBounded 11 = .ok (.iload_n 3, 1) := by decide +kernel
theorem dX4_areSumsBounded_12 : decode cX4_areSumsBounded 12 = .ok (.aload_n 0, 1) := by decide +kernel
theorem dX4_areSumsBounded_13 : decode cX4_areSumsBounded 13 = .ok (.getfield 43, 3) := by decide +kernel
theorem dX4_areSumsBounded_16 : decode cX4_areSumsBounded 16 = .ok (.if_icmp .ge 71, 3) := by decide +kernel
theorem dX4_areSumsBounded_19 : decode cX4_areSumsBounded 19 = .ok (.aload_n 2, 1) := by decide +kernel
theorem dX4_areSumsBounded_20 : decode cX4_areSumsBounded 20 = .ok (.aload_n 1, 1) := by decide +kernel
theorem dX4_areSumsBounded_21 : decode cX4_areSumsBounded 21 = .ok (.iconst 0, 1) := by decide +kernel
theorem dX4_areSumsBounded_22 : decode cX4_areSumsBounded 22 = .ok (.iload_n 3, 1) := by decide +kernel
theorem dX4_areSumsBounded_23 : decode cX4_areSumsBounded 23 = .ok (.aload_n 0, 1) := by decide +kernel
theorem dX4_areSumsBounded_24 : decode cX4_areSumsBounded 24 = .ok (.getfield 30, 3) := by decide +kernel
theorem dX4_areSumsBounded_27 : decode cX4_areSumsBounded 27 = .ok (.invokevirtual 64, 3) := by decide +kernel
theorem dX4_areSumsBounded_30 : decode cX4_areSumsBounded 30 = .ok (.ifCond .ne 5, 3) := by decide +kernel
theorem dX4_areSumsBounded_33 : decode cX4_areSumsBounded 33 = .ok (.iconst 0, 1) := by decide +kernel
theorem dX4_areSumsBounded_34 : decode cX4_areSumsBounded 34 = .ok (.ireturn, 1) := by decide +kernel
theorem dX4_areSumsBounded_35 : decode cX4_areSumsBounded 35 = .ok (.aload_n 0, 1) := by decide +kernel
theorem dX4_areSumsBounded_36 : decode cX4_areSumsBounded 36 = .ok (.iconst 0, 1) := by decide +kernel
theorem dX4_areSumsBounded_37 : decode cX4_areSumsBounded 37 = .ok (.iload_n 3, 1) := by decide +kernel
theorem dX4_areSumsBounded_38 : decode cX4_areSumsBounded 38 = .ok (.invokestatic 70, 3) := by decide +kernel
theorem dX4_areSumsBounded_41 : decode cX4_areSumsBounded 41 = .ok (.aload_n 0, 1) := by decide +kernel
theorem dX4_areSumsBounded_42 : decode cX4_areSumsBounded 42 = .ok (.getfield 30, 3) := by decide +kernel
theorem dX4_areSumsBounded_45 : decode cX4_areSumsBounded 45 = .ok (.invokevirtual 74, 3) := by decide +kernel
theorem dX4_areSumsBounded_48 : decode cX4_areSumsBounded 48 = .ok (.aload_n 0, 1) := by decide +kernel
theorem dX4_areSumsBounded_49 : decode cX4_areSumsBounded 49 = .ok (.getfield 34, 3) := by decide +kernel
theorem dX4_areSumsBounded_52 : decode cX4_areSumsBounded 52 = .ok (.aload_n 0, 1) := by decide +kernel
theorem dX4_areSumsBounded_53 : decode cX4_areSumsBounded 53 = .ok (.getfield 30, 3) := by decide +kernel
theorem dX4_areSumsBounded_56 : decode cX4_areSumsBounded 56 = .ok (.getfield 78, 3) := by decide +kernel
theorem dX4_areSumsBounded_59 : decode cX4_areSumsBounded 59 = .ok (.aload_n 0, 1) := by decide +kernel
theorem dX4_areSumsBounded_60 : decode cX4_areSumsBounded 60 = .ok (.getfield 30, 3) := by decide +kernel
theorem dX4_areSumsBounded_63 : decode cX4_areSumsBounded 63 = .ok (.getfield 82, 3) := by decide +kernel
theorem dX4_areSumsBounded_66 : decode cX4_areSumsBounded 66 = .ok (.invokevirtual 85, 3) := by decide +kernel
theorem dX4_areSumsBounded_69 : decode cX4_areSumsBounded 69 = .ok (.aload_n 0, 1) := by decide +kernel
theorem dX4_areSumsBounded_70 : decode cX4_areSumsBounded 70 = .ok (.getfield 34, 3) := by decide +kernel
theorem dX4_areSumsBounded_73 : decode cX4_areSumsBounded 73 = .ok (.invokevirtual 88, 3) := by decide +kernel
theorem dX4_areSumsBounded_76 : decode cX4_areSumsBounded 76 = .ok (.ifCond .eq 5, 3) := by decide +kernel
theorem dX4_areSumsBounded_79 : decode cX4_areSumsBounded 79 = .ok (.iconst 0, 1) := by decide +kernel
theorem dX4_areSumsBounded_80 : decode cX4_areSumsBounded 80 = .ok (.ireturn, 1) := by decide +kernel
theorem dX4_areSumsBounded_81 : decode cX4_areSumsBounded 81 = .ok (.iinc 3 1, 3) := by decide +kernel
theorem dX4_areSumsBounded_84 : decode cX4_areSumsBounded 84 = .ok (.goto (-73), 3) := by decide +kernel
theorem dX4_areSumsBounded_87 : decode cX4_areSumsBounded 87 = .ok (.iconst 0, 1) := by decide +kernel
theorem dX4_areSumsBounded_88 : decode cX4_areSumsBounded 88 = .ok (.istore_n 3, 1) := by decide +kernel
theorem dX4_areSumsBounded_89 : decode cX4_areSumsBounded 89 = .ok (.iload_n 3, 1) := by decide +kernel
theorem dX4_areSumsBounded_90 : decode cX4_areSumsBounded 90 = .ok (.aload_n 0, 1) := by decide +kernel
theorem dX4_areSumsBounded_91 : decode cX4_areSumsBounded 91 = .ok (.getfield 47, 3) := by decide +kernel
theorem dX4_areSumsBounded_94 : decode cX4_areSumsBounded 94 = .ok (.if_icmp .ge 38, 3) := by decide +kernel
theorem dX4_areSumsBounded_97 : decode cX4_areSumsBounded 97 = .ok (.aload_n 2, 1) := by decide +kernel
theorem dX4_areSumsBounded_98 : decode cX4_areSumsBounded 98 = .ok (.aload_n 1, 1) := by decide +kernel
theorem dX4_areSumsBounded_99 : decode cX4_areSumsBounded 99 = .ok (.iconst 1, 1) := by decide +kernel
theorem dX4_areSumsBounded_100 : decode cX4_areSumsBounded 100 = .ok (.iload_n 3, 1) := by decide +kernel
theorem dX4_areSumsBounded_101 : decode cX4_areSumsBounded 101 = .ok (.aload_n 0, 1) := by decide +kernel
theorem dX4_areSumsBounded_102 : decode cX4_areSumsBounded 102 = .ok (.getfield 30, 3) := by decide +kernel
theorem dX4_areSumsBounded_105 : decode cX4_areSumsBounded 105 = .ok (.invokevirtual 64, 3) := by decide +kernel
theorem dX4_areSumsBounded_108 : decode cX4_areSumsBounded 108 = .ok (.ifCond .ne 5, 3) := by decide +kernel
theorem dX4_areSumsBounded_111 : decode cX4_areSumsBounded 111 = .ok (.iconst 0, 1) := by decide +kernel
theorem dX4_areSumsBounded_112 : decode cX4_areSumsBounded 112 = .ok (.ireturn, 1) := by decide +kernel
theorem dX4_areSumsBounded_113 : decode cX4_areSumsBounded 113 = .ok (.aload_n 0, 1) := by decide +kernel
theorem dX4_areSumsBounded_114 : decode cX4_areSumsBounded 114 = .ok (.iconst 1, 1) := by decide +kernel
theorem dX4_areSumsBounded_115 : decode cX4_areSumsBounded 115 = .ok (.iload_n 3, 1) := by decide +kernel
theorem dX4_areSumsBounded_116 : decode cX4_areSumsBounded 116 = .ok (.invokestatic 70, 3) := by decide +kernel
theorem dX4_areSumsBounded_119 : decode cX4_areSumsBounded 119 = .ok (.aload_n 0, 1) := by decide +kernel
theorem dX4_areSumsBounded_120 : decode cX4_areSumsBounded 120 = .ok (.getfield 30, 3) := by decide +kernel
theorem dX4_areSumsBounded_123 : decode cX4_areSumsBounded 123 = .ok (.invokevirtual 74, 3) := by decide +kernel
theorem dX4_areSumsBounded_126 : decode cX4_areSumsBounded 126 = .ok (.iinc 3 1, 3) := by decide +kernel
theorem dX4_areSumsBounded_129 : decode cX4_areSumsBounded 129 = .ok (.goto (-40), 3) := by decide +kernel
theorem dX4_areSumsBounded_132 : decode cX4_areSumsBounded 132 = .ok (.aload_n 0, 1) := by decide +kernel
theorem dX4_areSumsBounded_133 : decode cX4_areSumsBounded 133 = .ok (.bipush 6, 2) := by decide +kernel
theorem dX4_areSumsBounded_135 : decode cX4_areSumsBounded 135 = .ok (.aload_n 0, 1) := by decide +kernel
theorem dX4_areSumsBounded_136 : decode cX4_areSumsBounded 136 = .ok (.getfield 34, 3) := by decide +kernel
theorem dX4_areSumsBounded_139 : decode cX4_areSumsBounded 139 = .ok (.invokevirtual 74, 3) := by decide +kernel
theorem dX4_areSumsBounded_142 : decode cX4_areSumsBounded 142 = .ok (.iconst 1, 1) := by decide +kernel
theorem dX4_areSumsBounded_143 : decode cX4_areSumsBounded 143 = .ok (.ireturn, 1) := by decide +kernel
theorem dX4_boundCells_0 : decode cX4_boundCells 0 = .ok (.iconst 0, 1) := by decide +kernel
theorem dX4_boundCells_1 : decode cX4_boundCells 1 = .ok (.istore_n 2, 1) := by decide +kernel
theorem dX4_boundCells_2 : decode cX4_boundCells 2 = .ok (.iload_n 2, 1) := by decide +kernel
theorem dX4_boundCells_3 : decode cX4_boundCells 3 = .ok (.bipush 9, 2) := by decide +kernel
theorem dX4_boundCells_5 : decode cX4_boundCells 5 = .ok (.if_icmp .ge 75, 3) := by decide +kernel
theorem dX4_boundCells_8 : decode cX4_boundCells 8 = .ok (.aload_n 0, 1) := by decide +kernel
theorem dX4_boundCells_9 : decode cX4_boundCells 9 = .ok (.getfield 15, 3) := by decide +kernel
theorem dX4_boundCells_12 : decode cX4_boundCells 12 = .ok (.iload_n 2, 1) := by decide +kernel
theorem dX4_boundCells_13 : decode cX4_boundCells 13 = .ok (.aload_n 1, 1) := by decide +kernel
theorem dX4_boundCells_14 : decode cX4_boundCells 14 = .ok (.getfield 92, 3) := by decide +kernel
theorem dX4_boundCells_17 : decode cX4_boundCells 17 = .ok (.iload_n 2, 1) := by decide +kernel
theorem dX4_boundCells_18 : decode cX4_boundCells 18 = .ok (.laload, 1) := by decide +kernel
theorem dX4_boundCells_19 : decode cX4_boundCells 19 = .ok (.aload_n 1, 1) := by decide +kernel
theorem dX4_boundCells_20 : decode cX4_boundCells 20 = .ok (.getfield 95, 3) := by decide +kernel
theorem dX4_boundCells_23 : decode cX4_boundCells 23 = .ok (.iload_n 2, 1) := by decide +kernel
theorem dX4_boundCells_24 : decode cX4_boundCells 24 = .ok (.laload, 1) := by decide +kernel
theorem dX4_boundCells_25 : decode cX4_boundCells 25 = .ok (.invokestatic 97, 3) := by decide +kernel
theorem dX4_boundCells_28 : decode cX4_boundCells 28 = .ok (.iastore, 1) := by decide +kernel
theorem dX4_boundCells_29 : decode cX4_boundCells 29 = .ok (.aload_n 0, 1) := by decide +kernel
theorem dX4_boundCells_30 : decode cX4_boundCells 30 = .ok (.getfield 18, 3) := by decide +kernel
theorem dX4_boundCells_33 : decode cX4_boundCells 33 = .ok (.iload_n 2, 1) := by decide +kernel
theorem dX4_boundCells_34 : decode cX4_boundCells 34 = .ok (.aload_n 0, 1) := by decide +kernel
theorem dX4_boundCells_35 : decode cX4_boundCells 35 = .ok (.getfield 15, 3) := by decide +kernel
theorem dX4_boundCells_38 : decode cX4_boundCells 38 = .ok (.iload_n 2, 1) := by decide +kernel
theorem dX4_boundCells_39 : decode cX4_boundCells 39 = .ok (.iaload, 1) := by decide +kernel
theorem dX4_boundCells_40 : decode cX4_boundCells 40 = .ok (.aload_n 0, 1) := by decide +kernel
theorem dX4_boundCells_41 : decode cX4_boundCells 41 = .ok (.getfield 15, 3) := by decide +kernel
theorem dX4_boundCells_44 : decode cX4_boundCells 44 = .ok (.iload_n 2, 1) := by decide +kernel
theorem dX4_boundCells_45 : decode cX4_boundCells 45 = .ok (.iaload, 1) := by decide +kernel
theorem dX4_boundCells_46 : decode cX4_boundCells 46 = .ok (.i2l, 1) := by decide +kernel
theorem dX4_boundCells_47 : decode cX4_boundCells 47 = .ok (.aload_n 1, 1) := by decide +kernel
theorem dX4_boundCells_48 : decode cX4_boundCells 48 = .ok (.getfield 95, 3) := by decide +kernel
theorem dX4_boundCells_51 : decode cX4_boundCells 51 = .ok (.iload_n 2, 1) := by decide +kernel
theorem dX4_boundCells_52 : decode cX4_boundCells 52 = .ok (.laload, 1) := by decide +kernel
theorem dX4_boundCells_53 : decode cX4_boundCells 53 = .ok (.lmul, 1) := by decide +kernel
theorem dX4_boundCells_54 : decode cX4_boundCells 54 = .ok (.aload_n 1, 1) := by decide +kernel
theorem dX4_boundCells_55 : decode cX4_boundCells 55 = .ok (.getfield 92, 3) := by decide +kernel
theorem dX4_boundCells_58 : decode cX4_boundCells 58 = .ok (.iload_n 2, 1) := by decide +kernel
theorem dX4_boundCells_59 : decode cX4_boundCells 59 = .ok (.laload, 1) := by decide +kernel
theorem dX4_boundCells_60 : decode cX4_boundCells 60 = .ok (.lcmp, 1) := by decide +kernel
theorem dX4_boundCells_61 : decode cX4_boundCells 61 = .ok (.ifCond .ge 7, 3) := by decide +kernel
theorem dX4_boundCells_64 : decode cX4_boundCells 64 = .ok (.iconst 1, 1) := by decide +kernel
theorem dX4_boundCells_65 : decode cX4_boundCells 65 = .ok (.goto 4, 3) := by decide +kernel
theorem dX4_boundCells_68 : decode cX4_boundCells 68 = .ok (.iconst 0, 1) := by decide +kernel
theorem dX4_boundCells_69 : decode cX4_boundCells 69 = .ok (.invokestatic 101, 3) := by decide +kernel
theorem dX4_boundCells_72 : decode cX4_boundCells 72 = .ok (.iadd, 1) := by decide +kernel
theorem dX4_boundCells_73 : decode cX4_boundCells 73 = .ok (.iastore, 1) := by decide +kernel
theorem dX4_boundCells_74 : decode cX4_boundCells 74 = .ok (.iinc 2 1, 3) := by decide +kernel
theorem dX4_boundCells_77 : decode cX4_boundCells 77 = .ok (.goto (-75), 3) := by decide +kernel
theorem dX4_boundCells_80 : decode cX4_boundCells 80 = .ok (.return_, 1) := by decide +kernel
theorem dX4_boundLine_0 : decode cX4_boundLine 0 = .ok (.aload_n 0, 1) := by decide +kernel
theorem dX4_boundLine_1 : decode cX4_boundLine 1 = .ok (.getfield 21, 3) := by decide +kernel
theorem dX4_boundLine_4 : decode cX4_boundLine 4 = .ok (.iload_n 1, 1) := by decide +kernel
theorem dX4_boundLine_5 : decode cX4_boundLine 5 = .ok (.aload_n 2, 1) := by decide +kernel
theorem dX4_boundLine_6 : decode cX4_boundLine 6 = .ok (.getfield 78, 3) := by decide +kernel
theorem dX4_boundLine_9 : decode cX4_boundLine 9 = .ok (.aload_n 2, 1) := by decide +kernel
theorem dX4_boundLine_10 : decode cX4_boundLine 10 = .ok (.getfield 82, 3) := by decide +kernel
theorem dX4_boundLine_13 : decode cX4_boundLine 13 = .ok (.invokestatic 97, 3) := by decide +kernel
theorem dX4_boundLine_16 : decode cX4_boundLine 16 = .ok (.iastore, 1) := by decide +kernel
theorem dX4_boundLine_17 : decode cX4_boundLine 17 = .ok (.aload_n 0, 1) := by decide +kernel
theorem dX4_boundLine_18 : decode cX4_boundLine 18 = .ok (.getfield 24, 3) := by decide +kernel
theorem dX4_boundLine_21 : decode cX4_boundLine 21 = .ok (.iload_n 1, 1) := by decide +kernel
theorem dX4_boundLine_22 : decode cX4_boundLine 22 = .ok (.aload_n 0, 1) := by decide +kernel
theorem dX4_boundLine_23 : decode cX4_boundLine 23 = .ok (.getfield 21, 3) := by decide +kernel
theorem dX4_boundLine_26 : decode cX4_boundLine 26 = .ok (.iload_n 1, 1) := by decide +kernel
theorem dX4_boundLine_27 : decode cX4_boundLine 27 = .ok (.iaload, 1) := by decide +kernel
theorem dX4_boundLine_28 : decode cX4_boundLine 28 = .ok (.aload_n 0, 1) := by decide +kernel
theorem dX4_boundLine_29 : decode cX4_boundLine 29 = .ok (.getfield 21, 3) := by decide +kernel
theorem dX4_boundLine_32 : decode cX4_boundLine 32 = .ok (.iload_n 1, 1) := by decide +kernel
theorem dX4_boundLine_33 : decode cX4_boundLine 33 = .ok (.iaload, 1) := by decide +kernel
theorem dX4_boundLine_34 : decode cX4_boundLine 34 = .ok (.i2l, 1) := by decide +kernel
theorem dX4_boundLine_35 : decode cX4_boundLine 35 = .ok (.aload_n 2, 1) := by decide +kernel
theorem dX4_boundLine_36 : decode cX4_boundLine 36 = .ok (.getfield 82, 3) := by decide +kernel
theorem dX4_boundLine_39 : decode cX4_boundLine 39 = .ok (.lmul, 1) := by decide +kernel
theorem dX4_boundLine_40 : decode cX4_boundLine 40 = .ok (.aload_n 2, 1) := by decide +kernel
theorem dX4_boundLine_41 : decode cX4_boundLine 41 = .ok (.getfield 78, 3) := by decide +kernel
theorem dX4_boundLine_44 : decode cX4_boundLine 44 = .ok (.lcmp, 1) := by decide +kernel
theorem dX4_boundLine_45 : decode cX4_boundLine 45 = .ok (.ifCond .ge 7, 3) := by decide +kernel
theorem dX4_boundLine_48 : decode cX4_boundLine 48 = .ok (.iconst 1, 1) := by decide +kernel
theorem dX4_boundLine_49 : decode cX4_boundLine 49 = .ok (.goto 4, 3) := by decide +kernel
theorem dX4_boundLine_52 : decode cX4_boundLine 52 = .ok (.iconst 0, 1) := by decide +kernel
theorem dX4_boundLine_53 : decode cX4_boundLine 53 = .ok (.invokestatic 101, 3) := by decide +kernel
theorem dX4_boundLine_56 : decode cX4_boundLine 56 = .ok (.iadd, 1) := by decide +kernel
theorem dX4_boundLine_57 : decode cX4_boundLine 57 = .ok (.iastore, 1) := by decide +kernel
theorem dX4_boundLine_58 : decode cX4_boundLine 58 = .ok (.return_, 1) := by decide +kernel
theorem dX4_wholesOf_0 : decode cX4_wholesOf 0 = .ok (.lload_n 2, 1) := by decide +kernel
theorem dX4_wholesOf_1 : decode cX4_wholesOf 1 = .ok (.lconst 0, 1) := by decide +kernel
theorem dX4_wholesOf_2 : decode cX4_wholesOf 2 = .ok (.lcmp, 1) := by decide +kernel
theorem dX4_wholesOf_3 : decode cX4_wholesOf 3 = .ok (.ifCond .le 10, 3) := by decide +kernel
theorem dX4_wholesOf_6 : decode cX4_wholesOf 6 = .ok (.lload_n 0, 1) := by decide +kernel
theorem dX4_wholesOf_7 : decode cX4_wholesOf 7 = .ok (.lload_n 2, 1) := by decide +kernel
theorem dX4_wholesOf_8 : decode cX4_wholesOf 8 = .ok (.ldiv, 1) := by decide +kernel
theorem dX4_wholesOf_9 : decode cX4_wholesOf 9 = .ok (.l2i, 1) := by decide +kernel
theorem dX4_wholesOf_10 : decode cX4_wholesOf 10 = .ok (.goto 4, 3) := by decide +kernel
theorem dX4_wholesOf_13 : decode cX4_wholesOf 13 = .ok (.iconst 0, 1) := by decide +kernel
theorem dX4_wholesOf_14 : decode cX4_wholesOf 14 = .ok (.ireturn, 1) := by decide +kernel
theorem dX4_isPutFrom_0 : decode cX4_isPutFrom 0 = .ok (.iload_n 1, 1) := by decide +kernel
theorem dX4_isPutFrom_1 : decode cX4_isPutFrom 1 = .ok (.aload_n 0, 1) := by decide +kernel
theorem dX4_isPutFrom_2 : decode cX4_isPutFrom 2 = .ok (.getfield 43, 3) := by decide +kernel
theorem dX4_isPutFrom_5 : decode cX4_isPutFrom 5 = .ok (.if_icmp .lt 29, 3) := by decide +kernel
theorem dX4_isPutFrom_8 : decode cX4_isPutFrom 8 = .ok (.aload_n 0, 1) := by decide +kernel
theorem dX4_isPutFrom_9 : decode cX4_isPutFrom 9 = .ok (.invokevirtual 105, 3) := by decide +kernel
theorem dX4_isPutFrom_12 : decode cX4_isPutFrom 12 = .ok (.ifCond .eq 20, 3) := by decide +kernel
theorem dX4_isPutFrom_15 : decode cX4_isPutFrom 15 = .ok (.aload_n 0, 1) := by decide +kernel
theorem dX4_isPutFrom_16 : decode cX4_isPutFrom 16 = .ok (.bipush 6, 2) := by decide +kernel
theorem dX4_isPutFrom_18 : decode cX4_isPutFrom 18 = .ok (.aload_n 0, 1) := by decide +kernel
theorem dX4_isPutFrom_19 : decode cX4_isPutFrom 19 = .ok (.invokevirtual 108, 3) := by decide +kernel
theorem dX4_isPutFrom_22 : decode cX4_isPutFrom 22 = .ok (.invokevirtual 112, 3) := by decide +kernel
theorem dX4_isPutFrom_25 : decode cX4_isPutFrom 25 = .ok (.ifCond .eq 7, 3) := by decide +kernel
theorem dX4_isPutFrom_28 : decode cX4_isPutFrom 28 = .ok (.iconst 1, 1) := by decide +kernel
theorem dX4_isPutFrom_29 : decode cX4_isPutFrom 29 = .ok (.goto 4, 3) := by decide +kernel
theorem dX4_isPutFrom_32 : decode cX4_isPutFrom 32 = .ok (.iconst 0, 1) := by decide +kernel
theorem dX4_isPutFrom_33 : decode cX4_isPutFrom 33 = .ok (.ireturn, 1) := by decide +kernel
theorem dX4_isPutFrom_34 : decode cX4_isPutFrom 34 = .ok (.iload_n 2, 1) := by decide +kernel
theorem dX4_isPutFrom_35 : decode cX4_isPutFrom 35 = .ok (.aload_n 0, 1) := by decide +kernel
theorem dX4_isPutFrom_36 : decode cX4_isPutFrom 36 = .ok (.getfield 47, 3) := by decide +kernel
theorem dX4_isPutFrom_39 : decode cX4_isPutFrom 39 = .ok (.if_icmp .lt 37, 3) := by decide +kernel
theorem dX4_isPutFrom_42 : decode cX4_isPutFrom 42 = .ok (.aload_n 0, 1) := by decide +kernel
theorem dX4_isPutFrom_43 : decode cX4_isPutFrom 43 = .ok (.iconst 0, 1) := by decide +kernel
theorem dX4_isPutFrom_44 : decode cX4_isPutFrom 44 = .ok (.iload_n 1, 1) := by decide +kernel
theorem dX4_isPutFrom_45 : decode cX4_isPutFrom 45 = .ok (.invokestatic 70, 3) := by decide +kernel
theorem dX4_isPutFrom_48 : decode cX4_isPutFrom 48 = .ok (.aload_n 0, 1) := by decide +kernel
theorem dX4_isPutFrom_49 : decode cX4_isPutFrom 49 = .ok (.iload_n 1, 1) := by decide +kernel
theorem dX4_isPutFrom_50 : decode cX4_isPutFrom 50 = .ok (.invokevirtual 116, 3) := by decide +kernel
theorem dX4_isPutFrom_53 : decode cX4_isPutFrom 53 = .ok (.invokevirtual 112, 3) := by decide +kernel
theorem dX4_isPutFrom_56 : decode cX4_isPutFrom 56 = .ok (.ifCond .eq 18, 3) := by decide +kernel
theorem dX4_isPutFrom_59 : decode cX4_isPutFrom 59 = .ok (.aload_n 0, 1) := by decide +kernel
theorem dX4_isPutFrom_60 : decode cX4_isPutFrom 60 = .ok (.iload_n 1, 1) := by decide +kernel
theorem dX4_isPutFrom_61 : decode cX4_isPutFrom 61 = .ok (.iconst 1, 1) := by decide +kernel
theorem dX4_isPutFrom_62 : decode cX4_isPutFrom 62 = .ok (.iadd, 1) := by decide +kernel
theorem dX4_isPutFrom_63 : decode cX4_isPutFrom 63 = .ok (.iconst 0, 1) := by decide +kernel
theorem dX4_isPutFrom_64 : decode cX4_isPutFrom 64 = .ok (.invokestatic 56, 3) := by decide +kernel
theorem dX4_isPutFrom_67 : decode cX4_isPutFrom 67 = .ok (.ifCond .eq 7, 3) := by decide +kernel
theorem dX4_isPutFrom_70 : decode cX4_isPutFrom 70 = .ok (.iconst 1, 1) := by decide +kernel
theorem dX4_isPutFrom_71 : decode cX4_isPutFrom 71 = .ok (.goto 4, 3) := by decide +kernel
theorem dX4_isPutFrom_74 : decode cX4_isPutFrom 74 = .ok (.iconst 0, 1) := by decide +kernel
theorem dX4_isPutFrom_75 : decode cX4_isPutFrom 75 = .ok (.ireturn, 1) := by decide +kernel
theorem dX4_isPutFrom_76 : decode cX4_isPutFrom 76 = .ok (.iload_n 1, 1) := by decide +kernel
theorem dX4_isPutFrom_77 : decode cX4_isPutFrom 77 = .ok (.iload_n 2, 1) := by decide +kernel
theorem dX4_isPutFrom_78 : decode cX4_isPutFrom 78 = .ok (.invokestatic 70, 3) := by decide +kernel
theorem dX4_isPutFrom_81 : decode cX4_isPutFrom 81 = .ok (.istore_n 3, 1) := by decide +kernel
theorem dX4_isPutFrom_82 : decode cX4_isPutFrom 82 = .ok (.aload_n 0, 1) := by decide +kernel
theorem dX4_isPutFrom_83 : decode cX4_isPutFrom 83 = .ok (.getfield 15, 3) := by decide +kernel
theorem dX4_isPutFrom_86 : decode cX4_isPutFrom 86 = .ok (.iload_n 3, 1) := by decide +kernel
theorem dX4_isPutFrom_87 : decode cX4_isPutFrom 87 = .ok (.iaload, 1) := by decide +kernel
theorem dX4_isPutFrom_88 : decode cX4_isPutFrom 88 = .ok (.istore 4, 2) := by decide +kernel
theorem dX4_isPutFrom_90 : decode cX4_isPutFrom 90 = .ok (.iload 4, 2) := by decide +kernel
theorem dX4_isPutFrom_92 : decode cX4_isPutFrom 92 = .ok (.aload_n 0, 1) := by decide +kernel
theorem dX4_isPutFrom_93 : decode cX4_isPutFrom 93 = .ok (.getfield 18, 3) := by decide +kernel
theorem dX4_isPutFrom_96 : decode cX4_isPutFrom 96 = .ok (.iload_n 3, 1) := by decide +kernel
theorem dX4_isPutFrom_97 : decode cX4_isPutFrom 97 = .ok (.iaload, 1) := by decide +kernel
theorem dX4_isPutFrom_98 : decode cX4_isPutFrom 98 = .ok (.if_icmp .gt 30, 3) := by decide +kernel
theorem dX4_isPutFrom_101 : decode cX4_isPutFrom 101 = .ok (.aload_n 0, 1) := by decide +kernel
theorem dX4_isPutFrom_102 : decode cX4_isPutFrom 102 = .ok (.getfield 9, 3) := by decide +kernel
theorem dX4_isPutFrom_105 : decode cX4_isPutFrom 105 = .ok (.iload_n 3, 1) := by decide +kernel
theorem dX4_isPutFrom_106 : decode cX4_isPutFrom 106 = .ok (.iload 4, 2) := by decide +kernel
theorem dX4_isPutFrom_108 : decode cX4_isPutFrom 108 = .ok (.iastore, 1) := by decide +kernel
theorem dX4_isPutFrom_109 : decode cX4_isPutFrom 109 = .ok (.aload_n 0, 1) := by decide +kernel
theorem dX4_isPutFrom_110 : decode cX4_isPutFrom 110 = .ok (.iload_n 1, 1) := by decide +kernel
theorem dX4_isPutFrom_111 : decode cX4_isPutFrom 111 = .ok (.iload_n 2, 1) := by decide +kernel
theorem dX4_isPutFrom_112 : decode cX4_isPutFrom 112 = .ok (.iconst 1, 1) := by decide +kernel
theorem dX4_isPutFrom_113 : decode cX4_isPutFrom 113 = .ok (.iadd, 1) := by decide +kernel
theorem dX4_isPutFrom_114 : decode cX4_isPutFrom 114 = .ok (.invokestatic 56, 3) := by decide +kernel
theorem dX4_isPutFrom_117 : decode cX4_isPutFrom 117 = .ok (.ifCond .eq 5, 3) := by decide +kernel
theorem dX4_isPutFrom_120 : decode cX4_isPutFrom 120 = .ok (.iconst 1, 1) := by decide +kernel
theorem dX4_isPutFrom_121 : decode cX4_isPutFrom 121 = .ok (.ireturn, 1) := by decide +kernel
theorem dX4_isPutFrom_122 : decode cX4_isPutFrom 122 = .ok (.iinc 4 1, 3) := by decide +kernel
theorem dX4_isPutFrom_125 : decode cX4_isPutFrom 125 = .ok (.goto (-35), 3) := by decide +kernel
theorem dX4_isPutFrom_128 : decode cX4_isPutFrom 128 = .ok (.iconst 0, 1) := by decide +kernel
theorem dX4_isPutFrom_129 : decode cX4_isPutFrom 129 = .ok (.ireturn, 1) := by decide +kernel
theorem dX4_stands_0 : decode cX4_stands 0 = .ok (.iload_n 2, 1) := by decide +kernel
theorem dX4_stands_1 : decode cX4_stands 1 = .ok (.aload_n 0, 1) := by decide +kernel
theorem dX4_stands_2 : decode cX4_stands 2 = .ok (.getfield 21, 3) := by decide +kernel
theorem dX4_stands_5 : decode cX4_stands 5 = .ok (.iload_n 1, 1) := by decide +kernel
theorem dX4_stands_6 : decode cX4_stands 6 = .ok (.iaload, 1) := by decide +kernel
theorem dX4_stands_7 : decode cX4_stands 7 = .ok (.if_icmp .lt 17, 3) := by decide +kernel
theorem dX4_stands_10 : decode cX4_stands 10 = .ok (.iload_n 2, 1) := by decide +kernel
theorem dX4_stands_11 : decode cX4_stands 11 = .ok (.aload_n 0, 1) := by decide +kernel
theorem dX4_stands_12 : decode cX4_stands 12 = .ok (.getfield 24, 3) := by decide +kernel
theorem dX4_stands_15 : decode cX4_stands 15 = .ok (.iload_n 1, 1) := by decide +kernel
theorem dX4_stands_16 : decode cX4_stands 16 = .ok (.iaload, 1) := by decide +kernel
theorem dX4_stands_17 : decode cX4_stands 17 = .ok (.if_icmp .gt 7, 3) := by decide +kernel
theorem dX4_stands_20 : decode cX4_stands 20 = .ok (.iconst 1, 1) := by decide +kernel
theorem dX4_stands_21 : decode cX4_stands 21 = .ok (.goto 4, 3) := by decide +kernel
theorem dX4_stands_24 : decode cX4_stands 24 = .ok (.iconst 0, 1) := by decide +kernel
theorem dX4_stands_25 : decode cX4_stands 25 = .ok (.ireturn, 1) := by decide +kernel
theorem dX4_doColumnsStand_0 : decode cX4_doColumnsStand 0 = .ok (.iconst 0, 1) := by decide +kernel
theorem dX4_doColumnsStand_1 : decode cX4_doColumnsStand 1 = .ok (.istore_n 1, 1) := by decide +kernel
theorem dX4_doColumnsStand_2 : decode cX4_doColumnsStand 2 = .ok (.iload_n 1, 1) := by decide +kernel
theorem dX4_doColumnsStand_3 : decode cX4_doColumnsStand 3 = .ok (.aload_n 0, 1) := by decide +kernel
theorem dX4_doColumnsStand_4 : decode cX4_doColumnsStand 4 = .ok (.getfield 47, 3) := by decide +kernel
theorem dX4_doColumnsStand_7 : decode cX4_doColumnsStand 7 = .ok (.if_icmp .ge 55, 3) := by decide +kernel
theorem dX4_doColumnsStand_10 : decode cX4_doColumnsStand 10 = .ok (.iconst 0, 1) := by decide +kernel
theorem dX4_doColumnsStand_11 : decode cX4_doColumnsStand 11 = .ok (.istore_n 2, 1) := by decide +kernel
theorem dX4_doColumnsStand_12 : decode cX4_doColumnsStand 12 = .ok (.iconst 0, 1) := by decide +kernel
theorem dX4_doColumnsStand_13 : decode cX4_doColumnsStand 13 = .ok (.istore_n 3, 1) := by decide +kernel
theorem dX4_doColumnsStand_14 : decode cX4_doColumnsStand 14 = .ok (.iload_n 3, 1) := by decide +kernel
theorem dX4_doColumnsStand_15 : decode cX4_doColumnsStand 15 = .ok (.aload_n 0, 1) := by decide +kernel
theorem dX4_doColumnsStand_16 : decode cX4_doColumnsStand 16 = .ok (.getfield 43, 3) := by decide +kernel
theorem dX4_doColumnsStand_19 : decode cX4_doColumnsStand 19 = .ok (.if_icmp .ge 22, 3) := by decide +kernel
theorem dX4_doColumnsStand_22 : decode cX4_doColumnsStand 22 = .ok (.iload_n 2, 1) := by decide +kernel
theorem dX4_doColumnsStand_23 : decode cX4_doColumnsStand 23 = .ok (.aload_n 0, 1) := by decide +kernel
theorem dX4_doColumnsStand_24 : decode cX4_doColumnsStand 24 = .ok (.getfield 9, 3) := by decide +kernel
theorem dX4_doColumnsStand_27 : decode cX4_doColumnsStand 27 = .ok (.iload_n 3, 1) := by decide +kernel
theorem dX4_doColumnsStand_28 : decode cX4_doColumnsStand 28 = .ok (.iload_n 1, 1) := by decide +kernel
theorem dX4_doColumnsStand_29 : decode cX4_doColumnsStand 29 = .ok (.invokestatic 70, 3) := by decide +kernel
theorem dX4_doColumnsStand_32 : decode cX4_doColumnsStand 32 = .ok (.iaload, 1) := by decide +kernel
theorem dX4_doColumnsStand_33 : decode cX4_doColumnsStand 33 = .ok (.iadd, 1) := by decide +kernel
theorem dX4_doColumnsStand_34 : decode cX4_doColumnsStand 34 = .ok (.istore_n 2, 1) := by decide +kernel
theorem dX4_doColumnsStand_35 : decode cX4_doColumnsStand 35 = .ok (.iinc 3 1, 3) := by decide +kernel
theorem dX4_doColumnsStand_38 : decode cX4_doColumnsStand 38 = .ok (.goto (-24), 3) := by decide +kernel
theorem dX4_doColumnsStand_41 : decode cX4_doColumnsStand 41 = .ok (.aload_n 0, 1) := by decide +kernel
theorem dX4_doColumnsStand_42 : decode cX4_doColumnsStand 42 = .ok (.iconst 1, 1) := by decide +kernel
theorem dX4_doColumnsStand_43 : decode cX4_doColumnsStand 43 = .ok (.iload_n 1, 1) := by decide +kernel
theorem dX4_doColumnsStand_44 : decode cX4_doColumnsStand 44 = .ok (.invokestatic 70, 3) := by decide +kernel
theorem dX4_doColumnsStand_47 : decode cX4_doColumnsStand 47 = .ok (.iload_n 2, 1) := by decide +kernel
theorem dX4_doColumnsStand_48 : decode cX4_doColumnsStand 48 = .ok (.invokevirtual 112, 3) := by decide +kernel
theorem dX4_doColumnsStand_51 : decode cX4_doColumnsStand 51 = .ok (.ifCond .ne 5, 3) := by decide +kernel
theorem dX4_doColumnsStand_54 : decode cX4_doColumnsStand 54 = .ok (.iconst 0, 1) := by decide +kernel
theorem dX4_doColumnsStand_55 : decode cX4_doColumnsStand 55 = .ok (.ireturn, 1) := by decide +kernel
theorem dX4_doColumnsStand_56 : decode cX4_doColumnsStand 56 = .ok (.iinc 1 1, 3) := by decide +kernel
theorem dX4_doColumnsStand_59 : decode cX4_doColumnsStand 59 = .ok (.goto (-57), 3) := by decide +kernel
theorem dX4_doColumnsStand_62 : decode cX4_doColumnsStand 62 = .ok (.iconst 1, 1) := by decide +kernel
theorem dX4_doColumnsStand_63 : decode cX4_doColumnsStand 63 = .ok (.ireturn, 1) := by decide +kernel
theorem dX4_rowPut_0 : decode cX4_rowPut 0 = .ok (.iconst 0, 1) := by decide +kernel
theorem dX4_rowPut_1 : decode cX4_rowPut 1 = .ok (.istore_n 2, 1) := by decide +kernel
theorem dX4_rowPut_2 : decode cX4_rowPut 2 = .ok (.iconst 0, 1) := by decide +kernel
theorem dX4_rowPut_3 : decode cX4_rowPut 3 = .ok (.istore_n 3, 1) := by decide +kernel
theorem dX4_rowPut_4 : decode cX4_rowPut 4 = .ok (.iload_n 3, 1) := by decide +kernel
theorem dX4_rowPut_5 : decode cX4_rowPut 5 = .ok (.aload_n 0, 1) := by decide +kernel
theorem dX4_rowPut_6 : decode cX4_rowPut 6 = .ok (.getfield 47, 3) := by decide +kernel
theorem dX4_rowPut_9 : decode cX4_rowPut 9 = .ok (.if_icmp .ge 22, 3) := by decide +kernel
theorem dX4_rowPut_12 : decode cX4_rowPut 12 = .ok (.iload_n 2, 1) := by decide +kernel
theorem dX4_rowPut_13 : decode cX4_rowPut 13 = .ok (.aload_n 0, 1) := by decide +kernel
theorem dX4_rowPut_14 : decode cX4_rowPut 14 = .ok (.getfield 9, 3) := by decide +kernel
theorem dX4_rowPut_17 : decode cX4_rowPut 17 = .ok (.iload_n 1, 1) := by decide +kernel
theorem dX4_rowPut_18 : decode cX4_rowPut 18 = .ok (.iload_n 3, 1) := by decide +kernel
theorem dX4_rowPut_19 : decode cX4_rowPut 19 = .ok (.invokestatic 70, 3) := by decide +kernel
theorem dX4_rowPut_22 : decode cX4_rowPut 22 = .ok (.iaload, 1) := by decide +kernel
theorem dX4_rowPut_23 : decode cX4_rowPut 23 = .ok (.iadd, 1) := by decide +kernel
theorem dX4_rowPut_24 : decode cX4_rowPut 24 = .ok (.istore_n 2, 1) := by decide +kernel
theorem dX4_rowPut_25 : decode cX4_rowPut 25 = .ok (.iinc 3 1, 3) := by decide +kernel
theorem dX4_rowPut_28 : decode cX4_rowPut 28 = .ok (.goto (-24), 3) := by decide +kernel
theorem dX4_rowPut_31 : decode cX4_rowPut 31 = .ok (.iload_n 2, 1) := by decide +kernel
theorem dX4_rowPut_32 : decode cX4_rowPut 32 = .ok (.ireturn, 1) := by decide +kernel
theorem dX4_allPut_0 : decode cX4_allPut 0 = .ok (.iconst 0, 1) := by decide +kernel
theorem dX4_allPut_1 : decode cX4_allPut 1 = .ok (.istore_n 1, 1) := by decide +kernel
theorem dX4_allPut_2 : decode cX4_allPut 2 = .ok (.iconst 0, 1) := by decide +kernel
theorem dX4_allPut_3 : decode cX4_allPut 3 = .ok (.istore_n 2, 1) := by decide +kernel
theorem dX4_allPut_4 : decode cX4_allPut 4 = .ok (.iload_n 2, 1) := by decide +kernel
theorem dX4_allPut_5 : decode cX4_allPut 5 = .ok (.aload_n 0, 1) := by decide +kernel
theorem dX4_allPut_6 : decode cX4_allPut 6 = .ok (.getfield 43, 3) := by decide +kernel
theorem dX4_allPut_9 : decode cX4_allPut 9 = .ok (.if_icmp .ge 17, 3) := by decide +kernel
theorem dX4_allPut_12 : decode cX4_allPut 12 = .ok (.iload_n 1, 1) := by decide +kernel
theorem dX4_allPut_13 : decode cX4_allPut 13 = .ok (.aload_n 0, 1) := by decide +kernel
theorem dX4_allPut_14 : decode cX4_allPut 14 = .ok (.iload_n 2, 1) := by decide +kernel
theorem dX4_allPut_15 : decode cX4_allPut 15 = .ok (.invokevirtual 116, 3) := by decide +kernel
theorem dX4_allPut_18 : decode cX4_allPut 18 = .ok (.iadd, 1) := by decide +kernel
theorem dX4_allPut_19 : decode cX4_allPut 19 = .ok (.istore_n 1, 1) := by decide +kernel
theorem dX4_allPut_20 : decode cX4_allPut 20 = .ok (.iinc 2 1, 3) := by decide +kernel
theorem dX4_allPut_23 : decode cX4_allPut 23 = .ok (.goto (-19), 3) := by decide +kernel
theorem dX4_allPut_26 : decode cX4_allPut 26 = .ok (.iload_n 1, 1) := by decide +kernel
theorem dX4_allPut_27 : decode cX4_allPut 27 = .ok (.ireturn, 1) := by decide +kernel
theorem dX5_init_0 : decode cX5_init 0 = .ok (.aload_n 0, 1) := by decide +kernel
theorem dX5_init_1 : decode cX5_init 1 = .ok (.invokespecial 3, 3) := by decide +kernel
theorem dX5_init_4 : decode cX5_init 4 = .ok (.aload_n 0, 1) := by decide +kernel
theorem dX5_init_5 : decode cX5_init 5 = .ok (.bipush 100, 2) := by decide +kernel
theorem dX5_init_7 : decode cX5_init 7 = .ok (.newarray .int, 2) := by decide +kernel
theorem dX5_init_9 : decode cX5_init 9 = .ok (.putfield 9, 3) := by decide +kernel
theorem dX5_init_12 : decode cX5_init 12 = .ok (.return_, 1) := by decide +kernel
theorem dX5_append_0 : decode cX5_append 0 = .ok (.aload_n 0, 1) := by decide +kernel
theorem dX5_append_1 : decode cX5_append 1 = .ok (.getfield 15, 3) := by decide +kernel
theorem dX5_append_4 : decode cX5_append 4 = .ok (.bipush 100, 2) := by decide +kernel
theorem dX5_append_6 : decode cX5_append 6 = .ok (.if_icmp .lt 6, 3) := by decide +kernel
theorem dX5_append_9 : decode cX5_append 9 = .ok (.bipush (-4), 2) := by decide +kernel
theorem dX5_append_11 : decode cX5_append 11 = .ok (.ireturn, 1) := by decide +kernel
theorem dX5_append_12 : decode cX5_append 12 = .ok (.aload_n 0, 1) := by decide +kernel
theorem dX5_append_13 : decode cX5_append 13 = .ok (.getfield 9, 3) := by decide +kernel
theorem dX5_append_16 : decode cX5_append 16 = .ok (.aload_n 0, 1) := by decide +kernel
theorem dX5_append_17 : decode cX5_append 17 = .ok (.getfield 15, 3) := by decide +kernel
theorem dX5_append_20 : decode cX5_append 20 = .ok (.iload_n 1, 1) := by decide +kernel
theorem dX5_append_21 : decode cX5_append 21 = .ok (.iastore, 1) := by decide +kernel
theorem dX5_append_22 : decode cX5_append 22 = .ok (.aload_n 0, 1) := by decide +kernel
theorem dX5_append_23 : decode cX5_append 23 = .ok (.dup, 1) := by decide +kernel
theorem dX5_append_24 : decode cX5_append 24 = .ok (.getfield 15, 3) := by decide +kernel
theorem dX5_append_27 : decode cX5_append 27 = .ok (.iconst 1, 1) := by decide +kernel
theorem dX5_append_28 : decode cX5_append 28 = .ok (.iadd, 1) := by decide +kernel
theorem dX5_append_29 : decode cX5_append 29 = .ok (.putfield 15, 3) := by decide +kernel
theorem dX5_append_32 : decode cX5_append 32 = .ok (.aload_n 0, 1) := by decide +kernel
theorem dX5_append_33 : decode cX5_append 33 = .ok (.getfield 15, 3) := by decide +kernel
theorem dX5_append_36 : decode cX5_append 36 = .ok (.ireturn, 1) := by decide +kernel
theorem dX5_sign_0 : decode cX5_sign 0 = .ok (.iload_n 1, 1) := by decide +kernel
theorem dX5_sign_1 : decode cX5_sign 1 = .ok (.ifCond .lt 20, 3) := by decide +kernel
theorem dX5_sign_4 : decode cX5_sign 4 = .ok (.iload_n 1, 1) := by decide +kernel
theorem dX5_sign_5 : decode cX5_sign 5 = .ok (.aload_n 0, 1) := by decide +kernel
theorem dX5_sign_6 : decode cX5_sign 6 = .ok (.getfield 15, 3) := by decide +kernel
theorem dX5_sign_9 : decode cX5_sign 9 = .ok (.if_icmp .ge 12, 3) := by decide +kernel
theorem dX5_sign_12 : decode cX5_sign 12 = .ok (.aload_n 0, 1) := by decide +kernel
theorem dX5_sign_13 : decode cX5_sign 13 = .ok (.getfield 9, 3) := by decide +kernel
theorem dX5_sign_16 : decode cX5_sign 16 = .ok (.iload_n 1, 1) := by decide +kernel
theorem dX5_sign_17 : decode cX5_sign 17 = .ok (.iaload, 1) := by decide +kernel
theorem dX5_sign_18 : decode cX5_sign 18 = .ok (.goto 4, 3) := by decide +kernel
theorem dX5_sign_21 : decode cX5_sign 21 = .ok (.iconst (-1), 1) := by decide +kernel
theorem dX5_sign_22 : decode cX5_sign 22 = .ok (.ireturn, 1) := by decide +kernel
theorem dX5_digit_0 : decode cX5_digit 0 = .ok (.aload_n 0, 1) := by decide +kernel
theorem dX5_digit_1 : decode cX5_digit 1 = .ok (.iload_n 1, 1) := by decide +kernel
theorem dX5_digit_2 : decode cX5_digit 2 = .ok (.invokevirtual 19, 3) := by decide +kernel
theorem dX5_digit_5 : decode cX5_digit 5 = .ok (.istore_n 2, 1) := by decide +kernel
theorem dX5_digit_6 : decode cX5_digit 6 = .ok (.iload_n 2, 1) := by decide +kernel
theorem dX5_digit_7 : decode cX5_digit 7 = .ok (.bipush 48, 2) := by decide +kernel
theorem dX5_digit_9 : decode cX5_digit 9 = .ok (.if_icmp .lt 16, 3) := by decide +kernel
theorem dX5_digit_12 : decode cX5_digit 12 = .ok (.iload_n 2, 1) := by decide +kernel
theorem dX5_digit_13 : decode cX5_digit 13 = .ok (.bipush 57, 2) := by decide +kernel
theorem dX5_digit_15 : decode cX5_digit 15 = .ok (.if_icmp .gt 10, 3) := by decide +kernel
theorem dX5_digit_18 : decode cX5_digit 18 = .ok (.iload_n 2, 1) := by decide +kernel
theorem dX5_digit_19 : decode cX5_digit 19 = .ok (.bipush 48, 2) := by decide +kernel
theorem dX5_digit_21 : decode cX5_digit 21 = .ok (.isub, 1) := by decide +kernel
theorem dX5_digit_22 : decode cX5_digit 22 = .ok (.goto 4, 3) := by decide +kernel
theorem dX5_digit_25 : decode cX5_digit 25 = .ok (.iconst (-1), 1) := by decide +kernel
theorem dX5_digit_26 : decode cX5_digit 26 = .ok (.ireturn, 1) := by decide +kernel
theorem dX5_number_0 : decode cX5_number 0 = .ok (.iload_n 1, 1) := by decide +kernel
theorem dX5_number_1 : decode cX5_number 1 = .ok (.iload_n 2, 1) := by decide +kernel
theorem dX5_number_2 : decode cX5_number 2 = .ok (.if_icmp .lt 5, 3) := by decide +kernel
theorem dX5_number_5 : decode cX5_number 5 = .ok (.iconst (-1), 1) := by decide +kernel
theorem dX5_number_6 : decode cX5_number 6 = .ok (.ireturn, 1) := by decide +kernel
theorem dX5_number_7 : decode cX5_number 7 = .ok (.iload_n 1, 1) := by decide +kernel
theorem dX5_number_8 : decode cX5_number 8 = .ok (.iconst 1, 1) := by decide +kernel
theorem dX5_number_9 : decode cX5_number 9 = .ok (.iadd, 1) := by decide +kernel
theorem dX5_number_10 : decode cX5_number 10 = .ok (.iload_n 2, 1) := by decide +kernel
theorem dX5_number_11 : decode cX5_number 11 = .ok (.if_icmp .ge 22, 3) := by decide +kernel
theorem dX5_number_14 : decode cX5_number 14 = .ok (.bipush 10, 2) := by decide +kernel
theorem dX5_number_16 : decode cX5_number 16 = .ok (.aload_n 0, 1) := by decide +kernel
theorem dX5_number_17 : decode cX5_number 17 = .ok (.iload_n 1, 1) := by decide +kernel
theorem dX5_number_18 : decode cX5_number 18 = .ok (.invokevirtual 23, 3) := by decide +kernel
theorem dX5_number_21 : decode cX5_number 21 = .ok (.imul, 1) := by decide +kernel
theorem dX5_number_22 : decode cX5_number 22 = .ok (.aload_n 0, 1) := by decide +kernel
theorem dX5_number_23 : decode cX5_number 23 = .ok (.iload_n 1, 1) := by decide +kernel
theorem dX5_number_24 : decode cX5_number 24 = .ok (.iconst 1, 1) := by decide +kernel
theorem dX5_number_25 : decode cX5_number 25 = .ok (.iadd, 1) := by decide +kernel
theorem dX5_number_26 : decode cX5_number 26 = .ok (.invokevirtual 23, 3) := by decide +kernel
theorem dX5_number_29 : decode cX5_number 29 = .ok (.iadd, 1) := by decide +kernel
theorem dX5_number_30 : decode cX5_number 30 = .ok (.goto 8, 3) := by decide +kernel
theorem dX5_number_33 : decode cX5_number 33 = .ok (.aload_n 0, 1) := by decide +kernel
theorem dX5_number_34 : decode cX5_number 34 = .ok (.iload_n 1, 1) := by decide +kernel
theorem dX5_number_35 : decode cX5_number 35 = .ok (.invokevirtual 23, 3) := by decide +kernel
theorem dX5_number_38 : decode cX5_number 38 = .ok (.ireturn, 1) := by decide +kernel
theorem dX5_fault_0 : decode cX5_fault 0 = .ok (.iconst 0, 1) := by decide +kernel
theorem dX5_fault_1 : decode cX5_fault 1 = .ok (.istore_n 1, 1) := by decide +kernel
theorem dX5_fault_2 : decode cX5_fault 2 = .ok (.iconst 1, 1) := by decide +kernel
theorem dX5_fault_3 : decode cX5_fault 3 = .ok (.istore_n 2, 1) := by decide +kernel
theorem dX5_fault_4 : decode cX5_fault 4 = .ok (.iload_n 2, 1) := by decide +kernel
theorem dX5_fault_5 : decode cX5_fault 5 = .ok (.bipush 12, 2) := by decide +kernel
theorem dX5_fault_7 : decode cX5_fault 7 = .ok (.if_icmp .gt 55, 3) := by decide +kernel
theorem dX5_fault_10 : decode cX5_fault 10 = .ok (.aload_n 0, 1) := by decide +kernel
theorem dX5_fault_11 : decode cX5_fault 11 = .ok (.iload_n 1, 1) := by decide +kernel
theorem dX5_fault_12 : decode cX5_fault 12 = .ok (.invokevirtual 26, 3) := by decide +kernel
theorem dX5_fault_15 : decode cX5_fault 15 = .ok (.istore_n 3, 1) := by decide +kernel
theorem dX5_fault_16 : decode cX5_fault 16 = .ok (.iload_n 3, 1) := by decide +kernel
theorem dX5_fault_17 : decode cX5_fault 17 = .ok (.ifCond .ge 7, 3) := by decide +kernel
theorem dX5_fault_20 : decode cX5_fault 20 = .ok (.iconst (-1), 1) := by decide +kernel
theorem dX5_fault_21 : decode cX5_fault 21 = .ok (.iload_n 3, 1) := by decide +kernel
theorem dX5_fault_22 : decode cX5_fault 22 = .ok (.isub, 1) := by decide +kernel
theorem dX5_fault_23 : decode cX5_fault 23 = .ok (.ireturn, 1) := by decide +kernel
theorem dX5_fault_24 : decode cX5_fault 24 = .ok (.iload_n 3, 1) := by decide +kernel
theorem dX5_fault_25 : decode cX5_fault 25 = .ok (.aload_n 0, 1) := by decide +kernel
theorem dX5_fault_26 : decode cX5_fault 26 = .ok (.getfield 15, 3) := by decide +kernel
theorem dX5_fault_29 : decode cX5_fault 29 = .ok (.if_icmp .lt 5, 3) := by decide +kernel
theorem dX5_fault_32 : decode cX5_fault 32 = .ok (.iconst (-1), 1) := by decide +kernel
theorem dX5_fault_33 : decode cX5_fault 33 = .ok (.ireturn, 1) := by decide +kernel
theorem dX5_fault_34 : decode cX5_fault 34 = .ok (.aload_n 0, 1) := by decide +kernel
theorem dX5_fault_35 : decode cX5_fault 35 = .ok (.iload_n 3, 1) := by decide +kernel
theorem dX5_fault_36 : decode cX5_fault 36 = .ok (.invokevirtual 19, 3) := by decide +kernel
theorem dX5_fault_39 : decode cX5_fault 39 = .ok (.bipush 59, 2) := by decide +kernel
theorem dX5_fault_41 : decode cX5_fault 41 = .ok (.if_icmp .ne 9, 3) := by decide +kernel
theorem dX5_fault_44 : decode cX5_fault 44 = .ok (.iload_n 2, 1) := by decide +kernel
theorem dX5_fault_45 : decode cX5_fault 45 = .ok (.bipush 12, 2) := by decide +kernel
theorem dX5_fault_47 : decode cX5_fault 47 = .ok (.if_icmp .ne 5, 3) := by decide +kernel
theorem dX5_fault_50 : decode cX5_fault 50 = .ok (.iload_n 3, 1) := by decide +kernel
theorem dX5_fault_51 : decode cX5_fault 51 = .ok (.ireturn, 1) := by decide +kernel
theorem dX5_fault_52 : decode cX5_fault 52 = .ok (.iload_n 3, 1) := by decide +kernel
theorem dX5_fault_53 : decode cX5_fault 53 = .ok (.iconst 1, 1) := by decide +kernel
theorem dX5_fault_54 : decode cX5_fault 54 = .ok (.iadd, 1) := by decide +kernel
theorem dX5_fault_55 : decode cX5_fault 55 = .ok (.istore_n 1, 1) := by decide +kernel
theorem dX5_fault_56 : decode cX5_fault 56 = .ok (.iinc 2 1, 3) := by decide +kernel
theorem dX5_fault_59 : decode cX5_fault 59 = .ok (.goto (-55), 3) := by decide +kernel
theorem dX5_fault_62 : decode cX5_fault 62 = .ok (.iload_n 1, 1) := by decide +kernel
theorem dX5_fault_63 : decode cX5_fault 63 = .ok (.ireturn, 1) := by decide +kernel
theorem dX5_clauseEnd_0 : decode cX5_clauseEnd 0 = .ok (.aload_n 0, 1) := by decide +kernel
theorem dX5_clauseEnd_1 : decode cX5_clauseEnd 1 = .ok (.iload_n 1, 1) := by decide +kernel
theorem dX5_clauseEnd_2 : decode cX5_clauseEnd 2 = .ok (.invokevirtual 19, 3) := by decide +kernel
theorem dX5_clauseEnd_5 : decode cX5_clauseEnd 5 = .ok (.tableswitch 105 107 120 #[91, 105, 81, 81, 105, 105, 105, 105, 71, 105, 105, 105, 105, 101], 71) := by decide +kernel
theorem dX5_clauseEnd_76 : decode cX5_clauseEnd 76 = .ok (.aload_n 0, 1) := by decide +kernel
theorem dX5_clauseEnd_77 : decode cX5_clauseEnd 77 = .ok (.iload_n 1, 1) := by decide +kernel
theorem dX5_clauseEnd_78 : decode cX5_clauseEnd 78 = .ok (.iconst 1, 1) := by decide +kernel
theorem dX5_clauseEnd_79 : decode cX5_clauseEnd 79 = .ok (.iadd, 1) := by decide +kernel
theorem dX5_clauseEnd_80 : decode cX5_clauseEnd 80 = .ok (.iconst 2, 1) := by decide +kernel
theorem dX5_clauseEnd_81 : decode cX5_clauseEnd 81 = .ok (.iconst 2, 1) := by decide +kernel
theorem dX5_clauseEnd_82 : decode cX5_clauseEnd 82 = .ok (.invokevirtual 29, 3) := by decide +kernel
theorem dX5_clauseEnd_85 : decode cX5_clauseEnd 85 = .ok (.ireturn, 1) := by decide +kernel
theorem dX5_clauseEnd_86 : decode cX5_clauseEnd 86 = .ok (.aload_n 0, 1) := by decide +kernel
theorem dX5_clauseEnd_87 : decode cX5_clauseEnd 87 = .ok (.iload_n 1, 1) := by decide +kernel
theorem dX5_clauseEnd_88 : decode cX5_clauseEnd 88 = .ok (.iconst 1, 1) := by decide +kernel
theorem dX5_clauseEnd_89 : decode cX5_clauseEnd 89 = .ok (.iadd, 1) := by decide +kernel
theorem dX5_clauseEnd_90 : decode cX5_clauseEnd 90 = .ok (.iconst 3, 1) := by decide +kernel
theorem dX5_clauseEnd_91 : decode cX5_clauseEnd 91 = .ok (.iconst 4, 1) := by decide +kernel
theorem dX5_clauseEnd_92 : decode cX5_clauseEnd 92 = .ok (.invokevirtual 29, 3) := by decide +kernel
theorem dX5_clauseEnd_95 : decode cX5_clauseEnd 95 = .ok (.ireturn, 1) := by decide +kernel
theorem dX5_clauseEnd_96 : decode cX5_clauseEnd 96 = .ok (.aload_n 0, 1) := by decide +kernel
theorem dX5_clauseEnd_97 : decode cX5_clauseEnd 97 = .ok (.iload_n 1, 1) := by decide +kernel
theorem dX5_clauseEnd_98 : decode cX5_clauseEnd 98 = .ok (.iconst 1, 1) := by decide +kernel
theorem dX5_clauseEnd_99 : decode cX5_clauseEnd 99 = .ok (.iadd, 1) := by decide +kernel
theorem dX5_clauseEnd_100 : decode cX5_clauseEnd 100 = .ok (.iconst 3, 1) := by decide +kernel
theorem dX5_clauseEnd_101 : decode cX5_clauseEnd 101 = .ok (.iconst 3, 1) := by decide +kernel
theorem dX5_clauseEnd_102 : decode cX5_clauseEnd 102 = .ok (.invokevirtual 29, 3) := by decide +kernel
theorem dX5_clauseEnd_105 : decode cX5_clauseEnd 105 = .ok (.ireturn, 1) := by decide +kernel
theorem dX5_clauseEnd_106 : decode cX5_clauseEnd 106 = .ok (.iload_n 1, 1) := by decide +kernel
theorem dX5_clauseEnd_107 : decode cX5_clauseEnd 107 = .ok (.iconst 1, 1) := by decide +kernel
theorem dX5_clauseEnd_108 : decode cX5_clauseEnd 108 = .ok (.iadd, 1) := by decide +kernel
theorem dX5_clauseEnd_109 : decode cX5_clauseEnd 109 = .ok (.ireturn, 1) := by decide +kernel
theorem dX5_clauseEnd_110 : decode cX5_clauseEnd 110 = .ok (.iconst (-1), 1) := by decide +kernel
theorem dX5_clauseEnd_111 : decode cX5_clauseEnd 111 = .ok (.iload_n 1, 1) := by decide +kernel
theorem dX5_clauseEnd_112 : decode cX5_clauseEnd 112 = .ok (.isub, 1) := by decide +kernel
theorem dX5_clauseEnd_113 : decode cX5_clauseEnd 113 = .ok (.ireturn, 1) := by decide +kernel
theorem dX5_digitsEnd_0 : decode cX5_digitsEnd 0 = .ok (.iconst 0, 1) := by decide +kernel
theorem dX5_digitsEnd_1 : decode cX5_digitsEnd 1 = .ok (.istore 4, 2) := by decide +kernel
theorem dX5_digitsEnd_3 : decode cX5_digitsEnd 3 = .ok (.iload 4, 2) := by decide +kernel
theorem dX5_digitsEnd_5 : decode cX5_digitsEnd 5 = .ok (.iload_n 3, 1) := by decide +kernel
theorem dX5_digitsEnd_6 : decode cX5_digitsEnd 6 = .ok (.if_icmp .ge 20, 3) := by decide +kernel
theorem dX5_digitsEnd_9 : decode cX5_digitsEnd 9 = .ok (.aload_n 0, 1) := by decide +kernel
theorem dX5_digitsEnd_10 : decode cX5_digitsEnd 10 = .ok (.iload_n 1, 1) := by decide +kernel
theorem dX5_digitsEnd_11 : decode cX5_digitsEnd 11 = .ok (.iload 4, 2) := by decide +kernel
theorem dX5_digitsEnd_13 : decode cX5_digitsEnd 13 = .ok (.iadd, 1) := by decide +kernel
theorem dX5_digitsEnd_14 : decode cX5_digitsEnd 14 = .ok (.invokevirtual 23, 3) := by decide +kernel
theorem dX5_digitsEnd_17 : decode cX5_digitsEnd 17 = .ok (.ifCond .lt 9, 3) := by decide +kernel
theorem dX5_digitsEnd_20 : decode cX5_digitsEnd 20 = .ok (.iinc 4 1, 3) := by decide +kernel
theorem dX5_digitsEnd_23 : decode cX5_digitsEnd 23 = .ok (.goto (-20), 3) := by decide +kernel
theorem dX5_digitsEnd_26 : decode cX5_digitsEnd 26 = .ok (.iload_n 1, 1) := by decide +kernel
theorem dX5_digitsEnd_27 : decode cX5_digitsEnd 27 = .ok (.iload 4, 2) := by decide +kernel
theorem dX5_digitsEnd_29 : decode cX5_digitsEnd 29 = .ok (.iadd, 1) := by decide +kernel
theorem dX5_digitsEnd_30 : decode cX5_digitsEnd 30 = .ok (.istore 5, 2) := by decide +kernel
theorem dX5_digitsEnd_32 : decode cX5_digitsEnd 32 = .ok (.iload 4, 2) := by decide +kernel
theorem dX5_digitsEnd_34 : decode cX5_digitsEnd 34 = .ok (.iload_n 2, 1) := by decide +kernel
theorem dX5_digitsEnd_35 : decode cX5_digitsEnd 35 = .ok (.if_icmp .ge 10, 3) := by decide +kernel
theorem dX5_digitsEnd_38 : decode cX5_digitsEnd 38 = .ok (.iconst (-1), 1) := by decide +kernel
theorem dX5_digitsEnd_39 : decode cX5_digitsEnd 39 = .ok (.iload 5, 2) := by decide +kernel
theorem dX5_digitsEnd_41 : decode cX5_digitsEnd 41 = .ok (.isub, 1) := by decide +kernel
theorem dX5_digitsEnd_42 : decode cX5_digitsEnd 42 = .ok (.goto 5, 3) := by decide +kernel
theorem dX5_digitsEnd_45 : decode cX5_digitsEnd 45 = .ok (.iload 5, 2) := by decide +kernel
theorem dX5_digitsEnd_47 : decode cX5_digitsEnd 47 = .ok (.ireturn, 1) := by decide +kernel
theorem dX6_init_0 : decode cX6_init 0 = .ok (.aload_n 0, 1) := by decide +kernel
theorem dX6_init_1 : decode cX6_init 1 = .ok (.invokespecial 3, 3) := by decide +kernel
theorem dX6_init_4 : decode cX6_init 4 = .ok (.aload_n 0, 1) := by decide +kernel
theorem dX6_init_5 : decode cX6_init 5 = .ok (.bipush 9, 2) := by decide +kernel
theorem dX6_init_7 : decode cX6_init 7 = .ok (.newarray .int, 2) := by decide +kernel
theorem dX6_init_9 : decode cX6_init 9 = .ok (.putfield 9, 3) := by decide +kernel
theorem dX6_init_12 : decode cX6_init 12 = .ok (.aload_n 0, 1) := by decide +kernel
theorem dX6_init_13 : decode cX6_init 13 = .ok (.bipush 9, 2) := by decide +kernel
theorem dX6_init_15 : decode cX6_init 15 = .ok (.newarray .int, 2) := by decide +kernel
theorem dX6_init_17 : decode cX6_init 17 = .ok (.putfield 15, 3) := by decide +kernel
theorem dX6_init_20 : decode cX6_init 20 = .ok (.aload_n 0, 1) := by decide +kernel
theorem dX6_init_21 : decode cX6_init 21 = .ok (.bipush 9, 2) := by decide +kernel
theorem dX6_init_23 : decode cX6_init 23 = .ok (.newarray .int, 2) := by decide +kernel
theorem dX6_init_25 : decode cX6_init 25 = .ok (.putfield 18, 3) := by decide +kernel
theorem dX6_init_28 : decode cX6_init 28 = .ok (.aload_n 0, 1) := by decide +kernel
theorem dX6_init_29 : decode cX6_init 29 = .ok (.iconst 2, 1) := by decide +kernel
theorem dX6_init_30 : decode cX6_init 30 = .ok (.iconst 2, 1) := by decide +kernel
theorem dX6_init_31 : decode cX6_init 31 = .ok (.invokevirtual 21, 3) := by decide +kernel
theorem dX6_init_34 : decode cX6_init 34 = .ok (.return_, 1) := by decide +kernel
theorem dX6_become_0 : decode cX6_become 0 = .ok (.aload_n 0, 1) := by decide +kernel
theorem dX6_become_1 : decode cX6_become 1 = .ok (.iload_n 1, 1) := by decide +kernel
theorem dX6_become_2 : decode cX6_become 2 = .ok (.putfield 25, 3) := by decide +kernel
theorem dX6_become_5 : decode cX6_become 5 = .ok (.aload_n 0, 1) := by decide +kernel
theorem dX6_become_6 : decode cX6_become 6 = .ok (.iload_n 2, 1) := by decide +kernel
theorem dX6_become_7 : decode cX6_become 7 = .ok (.putfield 29, 3) := by decide +kernel
theorem dX6_become_10 : decode cX6_become 10 = .ok (.iconst 0, 1) := by decide +kernel
theorem dX6_become_11 : decode cX6_become 11 = .ok (.istore_n 3, 1) := by decide +kernel
theorem dX6_become_12 : decode cX6_become 12 = .ok (.iload_n 3, 1) := by decide +kernel
theorem dX6_become_13 : decode cX6_become 13 = .ok (.bipush 9, 2) := by decide +kernel
theorem dX6_become_15 : decode cX6_become 15 = .ok (.if_icmp .ge 31, 3) := by decide +kernel
theorem dX6_become_18 : decode cX6_become 18 = .ok (.aload_n 0, 1) := by decide +kernel
theorem dX6_become_19 : decode cX6_become 19 = .ok (.getfield 9, 3) := by decide +kernel
theorem dX6_become_22 : decode cX6_become 22 = .ok (.iload_n 3, 1) := by decide +kernel
theorem dX6_become_23 : decode cX6_become 23 = .ok (.iconst 1, 1) := by decide +kernel
theorem dX6_become_24 : decode cX6_become 24 = .ok (.iastore, 1) := by decide +kernel
theorem dX6_become_25 : decode cX6_become 25 = .ok (.aload_n 0, 1) := by decide +kernel
theorem dX6_become_26 : decode cX6_become 26 = .ok (.getfield 15, 3) := by decide +kernel
theorem dX6_become_29 : decode cX6_become 29 = .ok (.iload_n 3, 1) := by decide +kernel
theorem dX6_become_30 : decode cX6_become 30 = .ok (.iconst 0, 1) := by decide +kernel
theorem dX6_become_31 : decode cX6_become 31 = .ok (.iastore, 1) := by decide +kernel
theorem dX6_become_32 : decode cX6_become 32 = .ok (.aload_n 0, 1) := by decide +kernel
theorem dX6_become_33 : decode cX6_become 33 = .ok (.getfield 18, 3) := by decide +kernel
theorem dX6_become_36 : decode cX6_become 36 = .ok (.iload_n 3, 1) := by decide +kernel
theorem dX6_become_37 : decode cX6_become 37 = .ok (.bipush 10, 2) := by decide +kernel
theorem dX6_become_39 : decode cX6_become 39 = .ok (.iastore, 1) := by decide +kernel
theorem dX6_become_40 : decode cX6_become 40 = .ok (.iinc 3 1, 3) := by decide +kernel
theorem dX6_become_43 : decode cX6_become 43 = .ok (.goto (-31), 3) := by decide +kernel
theorem dX6_become_46 : decode cX6_become 46 = .ok (.return_, 1) := by decide +kernel
theorem dX6_copyFrom_0 : decode cX6_copyFrom 0 = .ok (.aload_n 0, 1) := by decide +kernel
theorem dX6_copyFrom_1 : decode cX6_copyFrom 1 = .ok (.aload_n 1, 1) := by decide +kernel
theorem dX6_copyFrom_2 : decode cX6_copyFrom 2 = .ok (.getfield 25, 3) := by decide +kernel
theorem dX6_copyFrom_5 : decode cX6_copyFrom 5 = .ok (.putfield 25, 3) := by decide +kernel
theorem dX6_copyFrom_8 : decode cX6_copyFrom 8 = .ok (.aload_n 0, 1) := by decide +kernel
theorem dX6_copyFrom_9 : decode cX6_copyFrom 9 = .ok (.aload_n 1, 1) := by decide +kernel
theorem dX6_copyFrom_10 : decode cX6_copyFrom 10 = .ok (.getfield 29, 3) := by decide +kernel
theorem dX6_copyFrom_13 : decode cX6_copyFrom 13 = .ok (.putfield 29, 3) := by decide +kernel
theorem dX6_copyFrom_16 : decode cX6_copyFrom 16 = .ok (.aload_n 0, 1) := by decide +kernel
theorem dX6_copyFrom_17 : decode cX6_copyFrom 17 = .ok (.aload_n 1, 1) := by decide +kernel
theorem dX6_copyFrom_18 : decode cX6_copyFrom 18 = .ok (.getfield 32, 3) := by decide +kernel
theorem dX6_copyFrom_21 : decode cX6_copyFrom 21 = .ok (.putfield 32, 3) := by decide +kernel
theorem dX6_copyFrom_24 : decode cX6_copyFrom 24 = .ok (.aload_n 1, 1) := by decide +kernel
theorem dX6_copyFrom_25 : decode cX6_copyFrom 25 = .ok (.getfield 9, 3) := by decide +kernel
theorem dX6_copyFrom_28 : decode cX6_copyFrom 28 = .ok (.iconst 0, 1) := by decide +kernel
theorem dX6_copyFrom_29 : decode cX6_copyFrom 29 = .ok (.aload_n 0, 1) := by decide +kernel
theorem dX6_copyFrom_30 : decode cX6_copyFrom 30 = .ok (.getfield 9, 3) := by decide +kernel
theorem dX6_copyFrom_33 : decode cX6_copyFrom 33 = .ok (.iconst 0, 1) := by decide +kernel
theorem dX6_copyFrom_34 : decode cX6_copyFrom 34 = .ok (.bipush 9, 2) := by decide +kernel
theorem dX6_copyFrom_36 : decode cX6_copyFrom 36 = .ok (.invokestatic 36, 3) := by decide +kernel
theorem dX6_copyFrom_39 : decode cX6_copyFrom 39 = .ok (.aload_n 1, 1) := by decide +kernel
theorem dX6_copyFrom_40 : decode cX6_copyFrom 40 = .ok (.getfield 15, 3) := by decide +kernel
theorem dX6_copyFrom_43 : decode cX6_copyFrom 43 = .ok (.iconst 0, 1) := by decide +kernel
theorem dX6_copyFrom_44 : decode cX6_copyFrom 44 = .ok (.aload_n 0, 1) := by decide +kernel
theorem dX6_copyFrom_45 : decode cX6_copyFrom 45 = .ok (.getfield 15, 3) := by decide +kernel
theorem dX6_copyFrom_48 : decode cX6_copyFrom 48 = .ok (.iconst 0, 1) := by decide +kernel
theorem dX6_copyFrom_49 : decode cX6_copyFrom 49 = .ok (.bipush 9, 2) := by decide +kernel
theorem dX6_copyFrom_51 : decode cX6_copyFrom 51 = .ok (.invokestatic 36, 3) := by decide +kernel
theorem dX6_copyFrom_54 : decode cX6_copyFrom 54 = .ok (.aload_n 1, 1) := by decide +kernel
theorem dX6_copyFrom_55 : decode cX6_copyFrom 55 = .ok (.getfield 18, 3) := by decide +kernel
theorem dX6_copyFrom_58 : decode cX6_copyFrom 58 = .ok (.iconst 0, 1) := by decide +kernel
theorem dX6_copyFrom_59 : decode cX6_copyFrom 59 = .ok (.aload_n 0, 1) := by decide +kernel
theorem dX6_copyFrom_60 : decode cX6_copyFrom 60 = .ok (.getfield 18, 3) := by decide +kernel
theorem dX6_copyFrom_63 : decode cX6_copyFrom 63 = .ok (.iconst 0, 1) := by decide +kernel
theorem dX6_copyFrom_64 : decode cX6_copyFrom 64 = .ok (.bipush 9, 2) := by decide +kernel
theorem dX6_copyFrom_66 : decode cX6_copyFrom 66 = .ok (.invokestatic 36, 3) := by decide +kernel
theorem dX6_copyFrom_69 : decode cX6_copyFrom 69 = .ok (.return_, 1) := by decide +kernel
theorem dX6_cells_0 : decode cX6_cells 0 = .ok (.aload_n 0, 1) := by decide +kernel
theorem dX6_cells_1 : decode cX6_cells 1 = .ok (.getfield 25, 3) := by decide +kernel
theorem dX6_cells_4 : decode cX6_cells 4 = .ok (.aload_n 0, 1) := by decide +kernel
theorem dX6_cells_5 : decode cX6_cells 5 = .ok (.getfield 29, 3) := by decide +kernel
theorem dX6_cells_8 : decode cX6_cells 8 = .ok (.imul, 1) := by decide +kernel
theorem dX6_cells_9 : decode cX6_cells 9 = .ok (.ireturn, 1) := by decide +kernel
theorem dX6_hasCell_0 : decode cX6_hasCell 0 = .ok (.iload_n 1, 1) := by decide +kernel
theorem dX6_hasCell_1 : decode cX6_hasCell 1 = .ok (.ifCond .lt 27, 3) := by decide +kernel
theorem dX6_hasCell_4 : decode cX6_hasCell 4 = .ok (.iload_n 1, 1) := by decide +kernel
theorem dX6_hasCell_5 : decode cX6_hasCell 5 = .ok (.aload_n 0, 1) := by decide +kernel
theorem dX6_hasCell_6 : decode cX6_hasCell 6 = .ok (.getfield 25, 3) := by decide +kernel
theorem dX6_hasCell_9 : decode cX6_hasCell 9 = .ok (.if_icmp .ge 19, 3) := by decide +kernel
theorem dX6_hasCell_12 : decode cX6_hasCell 12 = .ok (.iload_n 2, 1) := by decide +kernel
theorem dX6_hasCell_13 : decode cX6_hasCell 13 = .ok (.ifCond .lt 15, 3) := by decide +kernel
theorem dX6_hasCell_16 : decode cX6_hasCell 16 = .ok (.iload_n 2, 1) := by decide +kernel
theorem dX6_hasCell_17 : decode cX6_hasCell 17 = .ok (.aload_n 0, 1) := by decide +kernel
theorem dX6_hasCell_18 : decode cX6_hasCell 18 = .ok (.getfield 29, 3) := by decide +kernel
theorem dX6_hasCell_21 : decode cX6_hasCell 21 = .ok (.if_icmp .ge 7, 3) := by decide +kernel
theorem dX6_hasCell_24 : decode cX6_hasCell 24 = .ok (.iconst 1, 1) := by decide +kernel
theorem dX6_hasCell_25 : decode cX6_hasCell 25 = .ok (.goto 4, 3) := by decide +kernel
theorem dX6_hasCell_28 : decode cX6_hasCell 28 = .ok (.iconst 0, 1) := by decide +kernel
theorem dX6_hasCell_29 : decode cX6_hasCell 29 = .ok (.ireturn, 1) := by decide +kernel
theorem dX6_lines_0 : decode cX6_lines 0 = .ok (.iload_n 1, 1) := by decide +kernel
theorem dX6_lines_1 : decode cX6_lines 1 = .ok (.tableswitch 39 0 2 #[27, 32, 37], 27) := by decide +kernel
theorem dX6_lines_28 : decode cX6_lines 28 = .ok (.aload_n 0, 1) := by decide +kernel
theorem dX6_lines_29 : decode cX6_lines 29 = .ok (.getfield 25, 3) := by decide +kernel
theorem dX6_lines_32 : decode cX6_lines 32 = .ok (.ireturn, 1) := by decide +kernel
theorem dX6_lines_33 : decode cX6_lines 33 = .ok (.aload_n 0, 1) := by decide +kernel
theorem dX6_lines_34 : decode cX6_lines 34 = .ok (.getfield 29, 3) := by decide +kernel
theorem dX6_lines_37 : decode cX6_lines 37 = .ok (.ireturn, 1) := by decide +kernel
theorem dX6_lines_38 : decode cX6_lines 38 = .ok (.iconst 3, 1) := by decide +kernel
theorem dX6_lines_39 : decode cX6_lines 39 = .ok (.ireturn, 1) := by decide +kernel
theorem dX6_lines_40 : decode cX6_lines 40 = .ok (.iconst 0, 1) := by decide +kernel
theorem dX6_lines_41 : decode cX6_lines 41 = .ok (.ireturn, 1) := by decide +kernel
theorem dX6_hasLine_0 : decode cX6_hasLine 0 = .ok (.iload_n 2, 1) := by decide +kernel
theorem dX6_hasLine_1 : decode cX6_hasLine 1 = .ok (.ifCond .lt 16, 3) := by decide +kernel
theorem dX6_hasLine_4 : decode cX6_hasLine 4 = .ok (.iload_n 2, 1) := by decide +kernel
theorem dX6_hasLine_5 : decode cX6_hasLine 5 = .ok (.aload_n 0, 1) := by decide +kernel
theorem dX6_hasLine_6 : decode cX6_hasLine 6 = .ok (.iload_n 1, 1) := by decide +kernel
theorem dX6_hasLine_7 : decode cX6_hasLine 7 = .ok (.invokevirtual 42, 3) := by decide +kernel
theorem dX6_hasLine_10 : decode cX6_hasLine 10 = .ok (.if_icmp .ge 7, 3) := by decide +kernel
theorem dX6_hasLine_13 : decode cX6_hasLine 13 = .ok (.iconst 1, 1) := by decide +kernel
theorem dX6_hasLine_14 : decode cX6_hasLine 14 = .ok (.goto 4, 3) := by decide +kernel
theorem dX6_hasLine_17 : decode cX6_hasLine 17 = .ok (.iconst 0, 1) := by decide +kernel
theorem dX6_hasLine_18 : decode cX6_hasLine 18 = .ok (.ireturn, 1) := by decide +kernel
theorem dX6_lineOf_0 : decode cX6_lineOf 0 = .ok (.iload_n 1, 1) := by decide +kernel
theorem dX6_lineOf_1 : decode cX6_lineOf 1 = .ok (.lookupswitch 31 #[(0, 27), (1, 29)], 27) := by decide +kernel
theorem dX6_lineOf_28 : decode cX6_lineOf 28 = .ok (.iload_n 2, 1) := by decide +kernel
theorem dX6_lineOf_29 : decode cX6_lineOf 29 = .ok (.ireturn, 1) := by decide +kernel
theorem dX6_lineOf_30 : decode cX6_lineOf 30 = .ok (.iload_n 3, 1) := by decide +kernel
theorem dX6_lineOf_31 : decode cX6_lineOf 31 = .ok (.ireturn, 1) := by decide +kernel
theorem dX6_lineOf_32 : decode cX6_lineOf 32 = .ok (.aload_n 0, 1) := by decide +kernel
theorem dX6_lineOf_33 : decode cX6_lineOf 33 = .ok (.getfield 15, 3) := by decide +kernel
theorem dX6_lineOf_36 : decode cX6_lineOf 36 = .ok (.iload_n 2, 1) := by decide +kernel
theorem dX6_lineOf_37 : decode cX6_lineOf 37 = .ok (.iload_n 3, 1) := by decide +kernel
theorem dX6_lineOf_38 : decode cX6_lineOf 38 = .ok (.invokestatic 46, 3) := by decide +kernel
theorem dX6_lineOf_41 : decode cX6_lineOf 41 = .ok (.iaload, 1) := by decide +kernel
theorem dX6_lineOf_42 : decode cX6_lineOf 42 = .ok (.ireturn, 1) := by decide +kernel
theorem dX6_allCounts_0 : decode cX6_allCounts 0 = .ok (.iconst 0, 1) := by decide +kernel
theorem dX6_allCounts_1 : decode cX6_allCounts 1 = .ok (.istore_n 1, 1) := by decide +kernel
theorem dX6_allCounts_2 : decode cX6_allCounts 2 = .ok (.iconst 0, 1) := by decide +kernel
theorem dX6_allCounts_3 : decode cX6_allCounts 3 = .ok (.istore_n 2, 1) := by decide +kernel
theorem dX6_allCounts_4 : decode cX6_allCounts 4 = .ok (.iload_n 2, 1) := by decide +kernel
theorem dX6_allCounts_5 : decode cX6_allCounts 5 = .ok (.aload_n 0, 1) := by decide +kernel
theorem dX6_allCounts_6 : decode cX6_allCounts 6 = .ok (.getfield 25, 3) := by decide +kernel
theorem dX6_allCounts_9 : decode cX6_allCounts 9 = .ok (.if_icmp .ge 38, 3) := by decide +kernel
theorem dX6_allCounts_12 : decode cX6_allCounts 12 = .ok (.iconst 0, 1) := by decide +kernel
theorem dX6_allCounts_13 : decode cX6_allCounts 13 = .ok (.istore_n 3, 1) := by decide +kernel
theorem dX6_allCounts_14 : decode cX6_allCounts 14 = .ok (.iload_n 3, 1) := by decide +kernel
theorem dX6_allCounts_15 : decode cX6_allCounts 15 = .ok (.aload_n 0, 1) := by decide +kernel
theorem dX6_allCounts_16 : decode cX6_allCounts 16 = .ok (.getfield 29, 3) := by decide +kernel
theorem dX6_allCounts_19 : decode cX6_allCounts 19 = .ok (.if_icmp .ge 22, 3) := by decide +kernel
theorem dX6_allCounts_22 : decode cX6_allCounts 22 = .ok (.iload_n 1, 1) := by decide +kernel
theorem dX6_allCounts_23 : decode cX6_allCounts 23 = .ok (.aload_n 0, 1) := by decide +kernel
theorem dX6_allCounts_24 : decode cX6_allCounts 24 = .ok (.getfield 9, 3) := by decide +kernel
theorem dX6_allCounts_27 : decode cX6_allCounts 27 = .ok (.iload_n 2, 1) := by decide +kernel
theorem dX6_allCounts_28 : decode cX6_allCounts 28 = .ok (.iload_n 3, 1) := by decide +kernel
theorem dX6_allCounts_29 : decode cX6_allCounts 29 = .ok (.invokestatic 46, 3) := by decide +kernel
theorem dX6_allCounts_32 : decode cX6_allCounts 32 = .ok (.iaload, 1) := by decide +kernel
theorem dX6_allCounts_33 : decode cX6_allCounts 33 = .ok (.iadd, 1) := by decide +kernel
theorem dX6_allCounts_34 : decode cX6_allCounts 34 = .ok (.istore_n 1, 1) := by decide +kernel
theorem dX6_allCounts_35 : decode cX6_allCounts 35 = .ok (.iinc 3 1, 3) := by decide +kernel
theorem dX6_allCounts_38 : decode cX6_allCounts 38 = .ok (.goto (-24), 3) := by decide +kernel
theorem dX6_allCounts_41 : decode cX6_allCounts 41 = .ok (.iinc 2 1, 3) := by decide +kernel
theorem dX6_allCounts_44 : decode cX6_allCounts 44 = .ok (.goto (-40), 3) := by decide +kernel
theorem dX6_allCounts_47 : decode cX6_allCounts 47 = .ok (.iload_n 1, 1) := by decide +kernel
theorem dX6_allCounts_48 : decode cX6_allCounts 48 = .ok (.ireturn, 1) := by decide +kernel
theorem dX6_allMargins_0 : decode cX6_allMargins 0 = .ok (.iconst 0, 1) := by decide +kernel
theorem dX6_allMargins_1 : decode cX6_allMargins 1 = .ok (.istore_n 2, 1) := by decide +kernel
theorem dX6_allMargins_2 : decode cX6_allMargins 2 = .ok (.iconst 0, 1) := by decide +kernel
theorem dX6_allMargins_3 : decode cX6_allMargins 3 = .ok (.istore_n 3, 1) := by decide +kernel
theorem dX6_allMargins_4 : decode cX6_allMargins 4 = .ok (.iload_n 3, 1) := by decide +kernel
theorem dX6_allMargins_5 : decode cX6_allMargins 5 = .ok (.aload_n 0, 1) := by decide +kernel
theorem dX6_allMargins_6 : decode cX6_allMargins 6 = .ok (.iload_n 1, 1) := by decide +kernel
theorem dX6_allMargins_7 : decode cX6_allMargins 7 = .ok (.invokevirtual 42, 3) := by decide +kernel
theorem dX6_allMargins_10 : decode cX6_allMargins 10 = .ok (.if_icmp .ge 22, 3) := by decide +kernel
theorem dX6_allMargins_13 : decode cX6_allMargins 13 = .ok (.iload_n 2, 1) := by decide +kernel
theorem dX6_allMargins_14 : decode cX6_allMargins 14 = .ok (.aload_n 0, 1) := by decide +kernel
theorem dX6_allMargins_15 : decode cX6_allMargins 15 = .ok (.getfield 18, 3) := by decide +kernel
theorem dX6_allMargins_18 : decode cX6_allMargins 18 = .ok (.iload_n 1, 1) := by decide +kernel
theorem dX6_allMargins_19 : decode cX6_allMargins 19 = .ok (.iload_n 3, 1) := by decide +kernel
theorem dX6_allMargins_20 : decode cX6_allMargins 20 = .ok (.invokestatic 46, 3) := by decide +kernel
theorem dX6_allMargins_23 : decode cX6_allMargins 23 = .ok (.iaload, 1) := by decide +kernel
theorem dX6_allMargins_24 : decode cX6_allMargins 24 = .ok (.iadd, 1) := by decide +kernel
theorem dX6_allMargins_25 : decode cX6_allMargins 25 = .ok (.istore_n 2, 1) := by decide +kernel
theorem dX6_allMargins_26 : decode cX6_allMargins 26 = .ok (.iinc 3 1, 3) := by decide +kernel
theorem dX6_allMargins_29 : decode cX6_allMargins 29 = .ok (.goto (-25), 3) := by decide +kernel
theorem dX6_allMargins_32 : decode cX6_allMargins 32 = .ok (.iload_n 2, 1) := by decide +kernel
theorem dX6_allMargins_33 : decode cX6_allMargins 33 = .ok (.ireturn, 1) := by decide +kernel
theorem dX6_isPossible_0 : decode cX6_isPossible 0 = .ok (.aload_n 0, 1) := by decide +kernel
theorem dX6_isPossible_1 : decode cX6_isPossible 1 = .ok (.iconst 0, 1) := by decide +kernel
theorem dX6_isPossible_2 : decode cX6_isPossible 2 = .ok (.invokevirtual 50, 3) := by decide +kernel
theorem dX6_isPossible_5 : decode cX6_isPossible 5 = .ok (.aload_n 0, 1) := by decide +kernel
theorem dX6_isPossible_6 : decode cX6_isPossible 6 = .ok (.iconst 1, 1) := by decide +kernel
theorem dX6_isPossible_7 : decode cX6_isPossible 7 = .ok (.invokevirtual 50, 3) := by decide +kernel
theorem dX6_isPossible_10 : decode cX6_isPossible 10 = .ok (.if_icmp .ne 14, 3) := by decide +kernel
theorem dX6_isPossible_13 : decode cX6_isPossible 13 = .ok (.aload_n 0, 1) := by decide +kernel
theorem dX6_isPossible_14 : decode cX6_isPossible 14 = .ok (.invokevirtual 53, 3) := by decide +kernel
theorem dX6_isPossible_17 : decode cX6_isPossible 17 = .ok (.ifCond .ne 7, 3) := by decide +kernel
theorem dX6_isPossible_20 : decode cX6_isPossible 20 = .ok (.iconst 1, 1) := by decide +kernel
theorem dX6_isPossible_21 : decode cX6_isPossible 21 = .ok (.goto 4, 3) := by decide +kernel
theorem dX6_isPossible_24 : decode cX6_isPossible 24 = .ok (.iconst 0, 1) := by decide +kernel
theorem dX6_isPossible_25 : decode cX6_isPossible 25 = .ok (.ireturn, 1) := by decide +kernel
theorem dX6_forbids_0 : decode cX6_forbids 0 = .ok (.iconst 0, 1) := by decide +kernel
theorem dX6_forbids_1 : decode cX6_forbids 1 = .ok (.istore_n 1, 1) := by decide +kernel
theorem dX6_forbids_2 : decode cX6_forbids 2 = .ok (.iconst 1, 1) := by decide +kernel
theorem dX6_forbids_3 : decode cX6_forbids 3 = .ok (.istore_n 2, 1) := by decide +kernel
theorem dX6_forbids_4 : decode cX6_forbids 4 = .ok (.iload_n 2, 1) := by decide +kernel
theorem dX6_forbids_5 : decode cX6_forbids 5 = .ok (.iconst 1, 1) := by decide +kernel
theorem dX6_forbids_6 : decode cX6_forbids 6 = .ok (.aload_n 0, 1) := by decide +kernel
theorem dX6_forbids_7 : decode cX6_forbids 7 = .ok (.getfield 25, 3) := by decide +kernel
theorem dX6_forbids_10 : decode cX6_forbids 10 = .ok (.ishl, 1) := by decide +kernel
theorem dX6_forbids_11 : decode cX6_forbids 11 = .ok (.if_icmp .ge 49, 3) := by decide +kernel
theorem dX6_forbids_14 : decode cX6_forbids 14 = .ok (.iload_n 1, 1) := by decide +kernel
theorem dX6_forbids_15 : decode cX6_forbids 15 = .ok (.ifCond .eq 14, 3) := by decide +kernel
theorem dX6_forbids_18 : decode cX6_forbids 18 = .ok (.iload_n 2, 1) := by decide +kernel
theorem dX6_forbids_19 : decode cX6_forbids 19 = .ok (.invokestatic 57, 3) := by decide +kernel
theorem dX6_forbids_22 : decode cX6_forbids 22 = .ok (.iload_n 1, 1) := by decide +kernel
theorem dX6_forbids_23 : decode cX6_forbids 23 = .ok (.invokestatic 57, 3) := by decide +kernel
theorem dX6_forbids_26 : decode cX6_forbids 26 = .ok (.if_icmp .ge 7, 3) := by decide +kernel
theorem dX6_forbids_29 : decode cX6_forbids 29 = .ok (.iconst 1, 1) := by decide +kernel
theorem dX6_forbids_30 : decode cX6_forbids 30 = .ok (.goto 4, 3) := by decide +kernel
theorem dX6_forbids_33 : decode cX6_forbids 33 = .ok (.iconst 0, 1) := by decide +kernel
theorem dX6_forbids_34 : decode cX6_forbids 34 = .ok (.istore_n 3, 1) := by decide +kernel
theorem dX6_forbids_35 : decode cX6_forbids 35 = .ok (.iload_n 3, 1) := by decide +kernel
theorem dX6_forbids_36 : decode cX6_forbids 36 = .ok (.ifCond .eq 18, 3) := by decide +kernel
theorem dX6_forbids_39 : decode cX6_forbids 39 = .ok (.aload_n 0, 1) := by decide +kernel
theorem dX6_forbids_40 : decode cX6_forbids 40 = .ok (.iload_n 2, 1) := by decide +kernel
theorem dX6_forbids_41 : decode cX6_forbids 41 = .ok (.invokevirtual 62, 3) := by decide +kernel
theorem dX6_forbids_44 : decode cX6_forbids 44 = .ok (.aload_n 0, 1) := by decide +kernel
theorem dX6_forbids_45 : decode cX6_forbids 45 = .ok (.iload_n 2, 1) := by decide +kernel
theorem dX6_forbids_46 : decode cX6_forbids 46 = .ok (.invokevirtual 65, 3) := by decide +kernel
theorem dX6_forbids_49 : decode cX6_forbids 49 = .ok (.if_icmp .le 5, 3) := by decide +kernel
theorem dX6_forbids_52 : decode cX6_forbids 52 = .ok (.iload_n 2, 1) := by decide +kernel
theorem dX6_forbids_53 : decode cX6_forbids 53 = .ok (.istore_n 1, 1) := by decide +kernel
theorem dX6_forbids_54 : decode cX6_forbids 54 = .ok (.iinc 2 1, 3) := by decide +kernel
theorem dX6_forbids_57 : decode cX6_forbids 57 = .ok (.goto (-53), 3) := by decide +kernel
theorem dX6_forbids_60 : decode cX6_forbids 60 = .ok (.iload_n 1, 1) := by decide +kernel
theorem dX6_forbids_61 : decode cX6_forbids 61 = .ok (.ireturn, 1) := by decide +kernel
theorem dX6_marginsOf_0 : decode cX6_marginsOf 0 = .ok (.iconst 0, 1) := by decide +kernel
theorem dX6_marginsOf_1 : decode cX6_marginsOf 1 = .ok (.istore_n 2, 1) := by decide +kernel
theorem dX6_marginsOf_2 : decode cX6_marginsOf 2 = .ok (.iconst 0, 1) := by decide +kernel
theorem dX6_marginsOf_3 : decode cX6_marginsOf 3 = .ok (.istore_n 3, 1) := by decide +kernel
theorem dX6_marginsOf_4 : decode cX6_marginsOf 4 = .ok (.iload_n 3, 1) := by decide +kernel
theorem dX6_marginsOf_5 : decode cX6_marginsOf 5 = .ok (.aload_n 0, 1) := by decide +kernel
theorem dX6_marginsOf_6 : decode cX6_marginsOf 6 = .ok (.getfield 25, 3) := by decide +kernel
theorem dX6_marginsOf_9 : decode cX6_marginsOf 9 = .ok (.if_icmp .ge 31, 3) := by decide +kernel
theorem dX6_marginsOf_12 : decode cX6_marginsOf 12 = .ok (.iload_n 1, 1) := by decide +kernel
theorem dX6_marginsOf_13 : decode cX6_marginsOf 13 = .ok (.iload_n 3, 1) := by decide +kernel
theorem dX6_marginsOf_14 : decode cX6_marginsOf 14 = .ok (.ishr, 1) := by decide +kernel
theorem dX6_marginsOf_15 : decode cX6_marginsOf 15 = .ok (.iconst 1, 1) := by decide +kernel
theorem dX6_marginsOf_16 : decode cX6_marginsOf 16 = .ok (.iand, 1) := by decide +kernel
theorem dX6_marginsOf_17 : decode cX6_marginsOf 17 = .ok (.iconst 1, 1) := by decide +kernel
theorem dX6_marginsOf_18 : decode cX6_marginsOf 18 = .ok (.if_icmp .ne 16, 3) := by decide +kernel
theorem dX6_marginsOf_21 : decode cX6_marginsOf 21 = .ok (.iload_n 2, 1) := by decide +kernel
theorem dX6_marginsOf_22 : decode cX6_marginsOf 22 = .ok (.aload_n 0, 1) := by decide +kernel
theorem dX6_marginsOf_23 : decode cX6_marginsOf 23 = .ok (.getfield 18, 3) := by decide +kernel
theorem dX6_marginsOf_26 : decode cX6_marginsOf 26 = .ok (.iconst 0, 1) := by decide +kernel
theorem dX6_marginsOf_27 : decode cX6_marginsOf 27 = .ok (.iload_n 3, 1) := by decide +kernel
theorem dX6_marginsOf_28 : decode cX6_marginsOf 28 = .ok (.invokestatic 46, 3) := by decide +kernel
theorem dX6_marginsOf_31 : decode cX6_marginsOf 31 = .ok (.iaload, 1) := by decide +kernel
theorem dX6_marginsOf_32 : decode cX6_marginsOf 32 = .ok (.iadd, 1) := by decide +kernel
theorem dX6_marginsOf_33 : decode cX6_marginsOf 33 = .ok (.istore_n 2, 1) := by decide +kernel
theorem dX6_marginsOf_34 : decode cX6_marginsOf 34 = .ok (.iinc 3 1, 3) := by decide +kernel
theorem dX6_marginsOf_37 : decode cX6_marginsOf 37 = .ok (.goto (-33), 3) := by decide +kernel
theorem dX6_marginsOf_40 : decode cX6_marginsOf 40 = .ok (.iload_n 2, 1) := by decide +kernel
theorem dX6_marginsOf_41 : decode cX6_marginsOf 41 = .ok (.ireturn, 1) := by decide +kernel
theorem dX6_marginsReached_0 : decode cX6_marginsReached 0 = .ok (.iconst 0, 1) := by decide +kernel
theorem dX6_marginsReached_1 : decode cX6_marginsReached 1 = .ok (.istore_n 2, 1) := by decide +kernel
theorem dX6_marginsReached_2 : decode cX6_marginsReached 2 = .ok (.iconst 0, 1) := by decide +kernel
theorem dX6_marginsReached_3 : decode cX6_marginsReached 3 = .ok (.istore_n 3, 1) := by decide +kernel
theorem dX6_marginsReached_4 : decode cX6_marginsReached 4 = .ok (.iload_n 3, 1) := by decide +kernel
theorem dX6_marginsReached_5 : decode cX6_marginsReached 5 = .ok (.aload_n 0, 1) := by decide +kernel
theorem dX6_marginsReached_6 : decode cX6_marginsReached 6 = .ok (.getfield 29, 3) := by decide +kernel
theorem dX6_marginsReached_9 : decode cX6_marginsReached 9 = .ok (.if_icmp .ge 31, 3) := by decide +kernel
theorem dX6_marginsReached_12 : decode cX6_marginsReached 12 = .ok (.aload_n 0, 1) := by decide +kernel
theorem dX6_marginsReached_13 : decode cX6_marginsReached 13 = .ok (.iload_n 1, 1) := by decide +kernel
theorem dX6_marginsReached_14 : decode cX6_marginsReached 14 = .ok (.iload_n 3, 1) := by decide +kernel
theorem dX6_marginsReached_15 : decode cX6_marginsReached 15 = .ok (.invokevirtual 68, 3) := by decide +kernel
theorem dX6_marginsReached_18 : decode cX6_marginsReached 18 = .ok (.ifCond .eq 16, 3) := by decide +kernel
theorem dX6_marginsReached_21 : decode cX6_marginsReached 21 = .ok (.iload_n 2, 1) := by decide +kernel
theorem dX6_marginsReached_22 : decode cX6_marginsReached 22 = .ok (.aload_n 0, 1) := by decide +kernel
theorem dX6_marginsReached_23 : decode cX6_marginsReached 23 = .ok (.getfield 18, 3) := by decide +kernel
theorem dX6_marginsReached_26 : decode cX6_marginsReached 26 = .ok (.iconst 1, 1) := by decide +kernel
theorem dX6_marginsReached_27 : decode cX6_marginsReached 27 = .ok (.iload_n 3, 1) := by decide +kernel
theorem dX6_marginsReached_28 : decode cX6_marginsReached 28 = .ok (.invokestatic 46, 3) := by decide +kernel
theorem dX6_marginsReached_31 : decode cX6_marginsReached 31 = .ok (.iaload, 1) := by decide +kernel
theorem dX6_marginsReached_32 : decode cX6_marginsReached 32 = .ok (.iadd, 1) := by decide +kernel
theorem dX6_marginsReached_33 : decode cX6_marginsReached 33 = .ok (.istore_n 2, 1) := by decide +kernel
theorem dX6_marginsReached_34 : decode cX6_marginsReached 34 = .ok (.iinc 3 1, 3) := by decide +kernel
theorem dX6_marginsReached_37 : decode cX6_marginsReached 37 = .ok (.goto (-33), 3) := by decide +kernel
theorem dX6_marginsReached_40 : decode cX6_marginsReached 40 = .ok (.iload_n 2, 1) := by decide +kernel
theorem dX6_marginsReached_41 : decode cX6_marginsReached 41 = .ok (.ireturn, 1) := by decide +kernel
theorem dX6_isReached_0 : decode cX6_isReached 0 = .ok (.iconst 0, 1) := by decide +kernel
theorem dX6_isReached_1 : decode cX6_isReached 1 = .ok (.istore_n 3, 1) := by decide +kernel
theorem dX6_isReached_2 : decode cX6_isReached 2 = .ok (.iload_n 3, 1) := by decide +kernel
theorem dX6_isReached_3 : decode cX6_isReached 3 = .ok (.aload_n 0, 1) := by decide +kernel
theorem dX6_isReached_4 : decode cX6_isReached 4 = .ok (.getfield 25, 3) := by decide +kernel
theorem dX6_isReached_7 : decode cX6_isReached 7 = .ok (.if_icmp .ge 33, 3) := by decide +kernel
theorem dX6_isReached_10 : decode cX6_isReached 10 = .ok (.iload_n 1, 1) := by decide +kernel
theorem dX6_isReached_11 : decode cX6_isReached 11 = .ok (.iload_n 3, 1) := by decide +kernel
theorem dX6_isReached_12 : decode cX6_isReached 12 = .ok (.ishr, 1) := by decide +kernel
theorem dX6_isReached_13 : decode cX6_isReached 13 = .ok (.iconst 1, 1) := by decide +kernel
theorem dX6_isReached_14 : decode cX6_isReached 14 = .ok (.iand, 1) := by decide +kernel
theorem dX6_isReached_15 : decode cX6_isReached 15 = .ok (.iconst 1, 1) := by decide +kernel
theorem dX6_isReached_16 : decode cX6_isReached 16 = .ok (.if_icmp .ne 18, 3) := by decide +kernel
theorem dX6_isReached_19 : decode cX6_isReached 19 = .ok (.aload_n 0, 1) := by decide +kernel
theorem dX6_isReached_20 : decode cX6_isReached 20 = .ok (.getfield 9, 3) := by decide +kernel
theorem dX6_isReached_23 : decode cX6_isReached 23 = .ok (.iload_n 3, 1) := by decide +kernel
theorem dX6_isReached_24 : decode cX6_isReached 24 = .ok (.iload_n 2, 1) := by decide +kernel
theorem dX6_isReached_25 : decode cX6_isReached 25 = .ok (.invokestatic 46, 3) := by decide +kernel
theorem dX6_isReached_28 : decode cX6_isReached 28 = .ok (.iaload, 1) := by decide +kernel
theorem dX6_isReached_29 : decode cX6_isReached 29 = .ok (.ifCond .le 5, 3) := by decide +kernel
theorem dX6_isReached_32 : decode cX6_isReached 32 = .ok (.iconst 1, 1) := by decide +kernel
theorem dX6_isReached_33 : decode cX6_isReached 33 = .ok (.ireturn, 1) := by decide +kernel
theorem dX6_isReached_34 : decode cX6_isReached 34 = .ok (.iinc 3 1, 3) := by decide +kernel
theorem dX6_isReached_37 : decode cX6_isReached 37 = .ok (.goto (-35), 3) := by decide +kernel
theorem dX6_isReached_40 : decode cX6_isReached 40 = .ok (.iconst 0, 1) := by decide +kernel
theorem dX6_isReached_41 : decode cX6_isReached 41 = .ok (.ireturn, 1) := by decide +kernel
theorem dX6_happen_0 : decode cX6_happen 0 = .ok (.iload_n 1, 1) := by decide +kernel
theorem dX6_happen_1 : decode cX6_happen 1 = .ok (.tableswitch 84 0 2 #[27, 66, 75], 27) := by decide +kernel
theorem dX6_happen_28 : decode cX6_happen 28 = .ok (.iload_n 2, 1) := by decide +kernel
theorem dX6_happen_29 : decode cX6_happen 29 = .ok (.ifCond .lt 83, 3) := by decide +kernel
theorem dX6_happen_32 : decode cX6_happen 32 = .ok (.aload_n 0, 1) := by decide +kernel
theorem dX6_happen_33 : decode cX6_happen 33 = .ok (.iload_n 2, 1) := by decide +kernel
theorem dX6_happen_34 : decode cX6_happen 34 = .ok (.bipush 10, 2) := by decide +kernel
theorem dX6_happen_36 : decode cX6_happen 36 = .ok (.idiv, 1) := by decide +kernel
theorem dX6_happen_37 : decode cX6_happen 37 = .ok (.iload_n 2, 1) := by decide +kernel
theorem dX6_happen_38 : decode cX6_happen 38 = .ok (.bipush 10, 2) := by decide +kernel
theorem dX6_happen_40 : decode cX6_happen 40 = .ok (.irem, 1) := by decide +kernel
theorem dX6_happen_41 : decode cX6_happen 41 = .ok (.invokevirtual 72, 3) := by decide +kernel
theorem dX6_happen_44 : decode cX6_happen 44 = .ok (.ifCond .eq 68, 3) := by decide +kernel
theorem dX6_happen_47 : decode cX6_happen 47 = .ok (.aload_n 0, 1) := by decide +kernel
theorem dX6_happen_48 : decode cX6_happen 48 = .ok (.getfield 9, 3) := by decide +kernel
theorem dX6_happen_51 : decode cX6_happen 51 = .ok (.iload_n 2, 1) := by decide +kernel
theorem dX6_happen_52 : decode cX6_happen 52 = .ok (.bipush 10, 2) := by decide +kernel
theorem dX6_happen_54 : decode cX6_happen 54 = .ok (.idiv, 1) := by decide +kernel
theorem dX6_happen_55 : decode cX6_happen 55 = .ok (.iload_n 2, 1) := by decide +kernel
theorem dX6_happen_56 : decode cX6_happen 56 = .ok (.bipush 10, 2) := by decide +kernel
theorem dX6_happen_58 : decode cX6_happen 58 = .ok (.irem, 1) := by decide +kernel
theorem dX6_happen_59 : decode cX6_happen 59 = .ok (.invokestatic 46, 3) := by decide +kernel
theorem dX6_happen_62 : decode cX6_happen 62 = .ok (.iconst 0, 1) := by decide +kernel
theorem dX6_happen_63 : decode cX6_happen 63 = .ok (.iastore, 1) := by decide +kernel
theorem dX6_happen_64 : decode cX6_happen 64 = .ok (.goto 48, 3) := by decide +kernel
theorem dX6_happen_67 : decode cX6_happen 67 = .ok (.aload_n 0, 1) := by decide +kernel
theorem dX6_happen_68 : decode cX6_happen 68 = .ok (.iconst 0, 1) := by decide +kernel
theorem dX6_happen_69 : decode cX6_happen 69 = .ok (.iload_n 2, 1) := by decide +kernel
theorem dX6_happen_70 : decode cX6_happen 70 = .ok (.invokevirtual 75, 3) := by decide +kernel
theorem dX6_happen_73 : decode cX6_happen 73 = .ok (.goto 39, 3) := by decide +kernel
theorem dX6_happen_76 : decode cX6_happen 76 = .ok (.aload_n 0, 1) := by decide +kernel
theorem dX6_happen_77 : decode cX6_happen 77 = .ok (.iconst 1, 1) := by decide +kernel
theorem dX6_happen_78 : decode cX6_happen 78 = .ok (.iload_n 2, 1) := by decide +kernel
theorem dX6_happen_79 : decode cX6_happen 79 = .ok (.invokevirtual 75, 3) := by decide +kernel
theorem dX6_happen_82 : decode cX6_happen 82 = .ok (.goto 30, 3) := by decide +kernel
theorem dX6_happen_85 : decode cX6_happen 85 = .ok (.iconst 0, 1) := by decide +kernel
theorem dX6_happen_86 : decode cX6_happen 86 = .ok (.istore_n 3, 1) := by decide +kernel
theorem dX6_happen_87 : decode cX6_happen 87 = .ok (.iload_n 3, 1) := by decide +kernel
theorem dX6_happen_88 : decode cX6_happen 88 = .ok (.aload_n 0, 1) := by decide +kernel
theorem dX6_happen_89 : decode cX6_happen 89 = .ok (.getfield 25, 3) := by decide +kernel
theorem dX6_happen_92 : decode cX6_happen 92 = .ok (.if_icmp .ge 20, 3) := by decide +kernel
theorem dX6_happen_95 : decode cX6_happen 95 = .ok (.aload_n 0, 1) := by decide +kernel
theorem dX6_happen_96 : decode cX6_happen 96 = .ok (.getfield 18, 3) := by decide +kernel
theorem dX6_happen_99 : decode cX6_happen 99 = .ok (.iconst 0, 1) := by decide +kernel
theorem dX6_happen_100 : decode cX6_happen 100 = .ok (.iload_n 3, 1) := by decide +kernel
theorem dX6_happen_101 : decode cX6_happen 101 = .ok (.invokestatic 46, 3) := by decide +kernel
theorem dX6_happen_104 : decode cX6_happen 104 = .ok (.iload_n 2, 1) := by decide +kernel
theorem dX6_happen_105 : decode cX6_happen 105 = .ok (.iastore, 1) := by decide +kernel
theorem dX6_happen_106 : decode cX6_happen 106 = .ok (.iinc 3 1, 3) := by decide +kernel
theorem dX6_happen_109 : decode cX6_happen 109 = .ok (.goto (-22), 3) := by decide +kernel
theorem dX6_happen_112 : decode cX6_happen 112 = .ok (.return_, 1) := by decide +kernel
theorem dX6_raise_0 : decode cX6_raise 0 = .ok (.aload_n 0, 1) := by decide +kernel
theorem dX6_raise_1 : decode cX6_raise 1 = .ok (.iload_n 1, 1) := by decide +kernel
theorem dX6_raise_2 : decode cX6_raise 2 = .ok (.iload_n 2, 1) := by decide +kernel
theorem dX6_raise_3 : decode cX6_raise 3 = .ok (.invokevirtual 78, 3) := by decide +kernel
theorem dX6_raise_6 : decode cX6_raise 6 = .ok (.ifCond .ne 4, 3) := by decide +kernel
theorem dX6_raise_9 : decode cX6_raise 9 = .ok (.return_, 1) := by decide +kernel
theorem dX6_raise_10 : decode cX6_raise 10 = .ok (.aload_n 0, 1) := by decide +kernel
theorem dX6_raise_11 : decode cX6_raise 11 = .ok (.getfield 18, 3) := by decide +kernel
theorem dX6_raise_14 : decode cX6_raise 14 = .ok (.iload_n 1, 1) := by decide +kernel
theorem dX6_raise_15 : decode cX6_raise 15 = .ok (.iload_n 2, 1) := by decide +kernel
theorem dX6_raise_16 : decode cX6_raise 16 = .ok (.invokestatic 46, 3) := by decide +kernel
theorem dX6_raise_19 : decode cX6_raise 19 = .ok (.bipush 60, 2) := by decide +kernel
theorem dX6_raise_21 : decode cX6_raise 21 = .ok (.aload_n 0, 1) := by decide +kernel
theorem dX6_raise_22 : decode cX6_raise 22 = .ok (.getfield 18, 3) := by decide +kernel
theorem dX6_raise_25 : decode cX6_raise 25 = .ok (.iload_n 1, 1) := by decide +kernel
theorem dX6_raise_26 : decode cX6_raise 26 = .ok (.iload_n 2, 1) := by decide +kernel
theorem dX6_raise_27 : decode cX6_raise 27 = .ok (.invokestatic 46, 3) := by decide +kernel
theorem dX6_raise_30 : decode cX6_raise 30 = .ok (.iaload, 1) := by decide +kernel
theorem dX6_raise_31 : decode cX6_raise 31 = .ok (.iconst 1, 1) := by decide +kernel
theorem dX6_raise_32 : decode cX6_raise 32 = .ok (.iadd, 1) := by decide +kernel
theorem dX6_raise_33 : decode cX6_raise 33 = .ok (.invokestatic 81, 3) := by decide +kernel
theorem dX6_raise_36 : decode cX6_raise 36 = .ok (.iastore, 1) := by decide +kernel
theorem dX6_raise_37 : decode cX6_raise 37 = .ok (.return_, 1) := by decide +kernel
theorem dX7_init_0 : decode cX7_init 0 = .ok (.aload_n 0, 1) := by decide +kernel
theorem dX7_init_1 : decode cX7_init 1 = .ok (.invokespecial 3, 3) := by decide +kernel
theorem dX7_init_4 : decode cX7_init 4 = .ok (.aload_n 0, 1) := by decide +kernel
theorem dX7_init_5 : decode cX7_init 5 = .ok (.bipush 9, 2) := by decide +kernel
theorem dX7_init_7 : decode cX7_init 7 = .ok (.newarray .long, 2) := by decide +kernel
theorem dX7_init_9 : decode cX7_init 9 = .ok (.putfield 9, 3) := by decide +kernel
theorem dX7_init_12 : decode cX7_init 12 = .ok (.aload_n 0, 1) := by decide +kernel
theorem dX7_init_13 : decode cX7_init 13 = .ok (.bipush 9, 2) := by decide +kernel
theorem dX7_init_15 : decode cX7_init 15 = .ok (.newarray .long, 2) := by decide +kernel
theorem dX7_init_17 : decode cX7_init 17 = .ok (.putfield 15, 3) := by decide +kernel
theorem dX7_init_20 : decode cX7_init 20 = .ok (.aload_n 0, 1) := by decide +kernel
theorem dX7_init_21 : decode cX7_init 21 = .ok (.new 18, 3) := by decide +kernel
theorem dX7_init_24 : decode cX7_init 24 = .ok (.dup, 1) := by decide +kernel
theorem dX7_init_25 : decode cX7_init 25 = .ok (.invokespecial 20, 3) := by decide +kernel
theorem dX7_init_28 : decode cX7_init 28 = .ok (.putfield 21, 3) := by decide +kernel
theorem dX7_init_31 : decode cX7_init 31 = .ok (.aload_n 0, 1) := by decide +kernel
theorem dX7_init_32 : decode cX7_init 32 = .ok (.new 18, 3) := by decide +kernel
theorem dX7_init_35 : decode cX7_init 35 = .ok (.dup, 1) := by decide +kernel
theorem dX7_init_36 : decode cX7_init 36 = .ok (.invokespecial 20, 3) := by decide +kernel
theorem dX7_init_39 : decode cX7_init 39 = .ok (.putfield 25, 3) := by decide +kernel
theorem dX7_init_42 : decode cX7_init 42 = .ok (.iconst 0, 1) := by decide +kernel
theorem dX7_init_43 : decode cX7_init 43 = .ok (.istore_n 1, 1) := by decide +kernel
theorem dX7_init_44 : decode cX7_init 44 = .ok (.iload_n 1, 1) := by decide +kernel
theorem dX7_init_45 : decode cX7_init 45 = .ok (.bipush 9, 2) := by decide +kernel
theorem dX7_init_47 : decode cX7_init 47 = .ok (.if_icmp .ge 23, 3) := by decide +kernel
theorem dX7_init_50 : decode cX7_init 50 = .ok (.aload_n 0, 1) := by decide +kernel
theorem dX7_init_51 : decode cX7_init 51 = .ok (.getfield 9, 3) := by decide +kernel
theorem dX7_init_54 : decode cX7_init 54 = .ok (.iload_n 1, 1) := by decide +kernel
theorem dX7_init_55 : decode cX7_init 55 = .ok (.lconst 1, 1) := by decide +kernel
theorem dX7_init_56 : decode cX7_init 56 = .ok (.lastore, 1) := by decide +kernel
theorem dX7_init_57 : decode cX7_init 57 = .ok (.aload_n 0, 1) := by decide +kernel
theorem dX7_init_58 : decode cX7_init 58 = .ok (.getfield 15, 3) := by decide +kernel
theorem dX7_init_61 : decode cX7_init 61 = .ok (.iload_n 1, 1) := by decide +kernel
theorem dX7_init_62 : decode cX7_init 62 = .ok (.lconst 1, 1) := by decide +kernel
theorem dX7_init_63 : decode cX7_init 63 = .ok (.lastore, 1) := by decide +kernel
theorem dX7_init_64 : decode cX7_init 64 = .ok (.iinc 1 1, 3) := by decide +kernel
theorem dX7_init_67 : decode cX7_init 67 = .ok (.goto (-23), 3) := by decide +kernel
theorem dX7_init_70 : decode cX7_init 70 = .ok (.return_, 1) := by decide +kernel
theorem dX7_takeCounts_0 : decode cX7_takeCounts 0 = .ok (.iconst 0, 1) := by decide +kernel
theorem dX7_takeCounts_1 : decode cX7_takeCounts 1 = .ok (.istore_n 2, 1) := by decide +kernel
theorem dX7_takeCounts_2 : decode cX7_takeCounts 2 = .ok (.iload_n 2, 1) := by decide +kernel
theorem dX7_takeCounts_3 : decode cX7_takeCounts 3 = .ok (.bipush 9, 2) := by decide +kernel
theorem dX7_takeCounts_5 : decode cX7_takeCounts 5 = .ok (.if_icmp .ge 29, 3) := by decide +kernel
theorem dX7_takeCounts_8 : decode cX7_takeCounts 8 = .ok (.aload_n 0, 1) := by decide +kernel
theorem dX7_takeCounts_9 : decode cX7_takeCounts 9 = .ok (.getfield 9, 3) := by decide +kernel
theorem dX7_takeCounts_12 : decode cX7_takeCounts 12 = .ok (.iload_n 2, 1) := by decide +kernel
theorem dX7_takeCounts_13 : decode cX7_takeCounts 13 = .ok (.aload_n 1, 1) := by decide +kernel
theorem dX7_takeCounts_14 : decode cX7_takeCounts 14 = .ok (.getfield 30, 3) := by decide +kernel
theorem dX7_takeCounts_17 : decode cX7_takeCounts 17 = .ok (.iload_n 2, 1) := by decide +kernel
theorem dX7_takeCounts_18 : decode cX7_takeCounts 18 = .ok (.iaload, 1) := by decide +kernel
theorem dX7_takeCounts_19 : decode cX7_takeCounts 19 = .ok (.i2l, 1) := by decide +kernel
theorem dX7_takeCounts_20 : decode cX7_takeCounts 20 = .ok (.lastore, 1) := by decide +kernel
theorem dX7_takeCounts_21 : decode cX7_takeCounts 21 = .ok (.aload_n 0, 1) := by decide +kernel
theorem dX7_takeCounts_22 : decode cX7_takeCounts 22 = .ok (.getfield 15, 3) := by decide +kernel
theorem dX7_takeCounts_25 : decode cX7_takeCounts 25 = .ok (.iload_n 2, 1) := by decide +kernel
theorem dX7_takeCounts_26 : decode cX7_takeCounts 26 = .ok (.lconst 1, 1) := by decide +kernel
theorem dX7_takeCounts_27 : decode cX7_takeCounts 27 = .ok (.lastore, 1) := by decide +kernel
theorem dX7_takeCounts_28 : decode cX7_takeCounts 28 = .ok (.iinc 2 1, 3) := by decide +kernel
theorem dX7_takeCounts_31 : decode cX7_takeCounts 31 = .ok (.goto (-29), 3) := by decide +kernel
theorem dX7_takeCounts_34 : decode cX7_takeCounts 34 = .ok (.aload_n 0, 1) := by decide +kernel
theorem dX7_takeCounts_35 : decode cX7_takeCounts 35 = .ok (.iconst 0, 1) := by decide +kernel
theorem dX7_takeCounts_36 : decode cX7_takeCounts 36 = .ok (.putfield 34, 3) := by decide +kernel
theorem dX7_takeCounts_39 : decode cX7_takeCounts 39 = .ok (.return_, 1) := by decide +kernel
theorem dX7_copyFrom_0 : decode cX7_copyFrom 0 = .ok (.aload_n 1, 1) := by decide +kernel
theorem dX7_copyFrom_1 : decode cX7_copyFrom 1 = .ok (.getfield 9, 3) := by decide +kernel
theorem dX7_copyFrom_4 : decode cX7_copyFrom 4 = .ok (.iconst 0, 1) := by decide +kernel
theorem dX7_copyFrom_5 : decode cX7_copyFrom 5 = .ok (.aload_n 0, 1) := by decide +kernel
theorem dX7_copyFrom_6 : decode cX7_copyFrom 6 = .ok (.getfield 9, 3) := by decide +kernel
theorem dX7_copyFrom_9 : decode cX7_copyFrom 9 = .ok (.iconst 0, 1) := by decide +kernel
theorem dX7_copyFrom_10 : decode cX7_copyFrom 10 = .ok (.bipush 9, 2) := by decide +kernel
theorem dX7_copyFrom_12 : decode cX7_copyFrom 12 = .ok (.invokestatic 38, 3) := by decide +kernel
theorem dX7_copyFrom_15 : decode cX7_copyFrom 15 = .ok (.aload_n 1, 1) := by decide +kernel
theorem dX7_copyFrom_16 : decode cX7_copyFrom 16 = .ok (.getfield 15, 3) := by decide +kernel
theorem dX7_copyFrom_19 : decode cX7_copyFrom 19 = .ok (.iconst 0, 1) := by decide +kernel
theorem dX7_copyFrom_20 : decode cX7_copyFrom 20 = .ok (.aload_n 0, 1) := by decide +kernel
theorem dX7_copyFrom_21 : decode cX7_copyFrom 21 = .ok (.getfield 15, 3) := by decide +kernel
theorem dX7_copyFrom_24 : decode cX7_copyFrom 24 = .ok (.iconst 0, 1) := by decide +kernel
theorem dX7_copyFrom_25 : decode cX7_copyFrom 25 = .ok (.bipush 9, 2) := by decide +kernel
theorem dX7_copyFrom_27 : decode cX7_copyFrom 27 = .ok (.invokestatic 38, 3) := by decide +kernel
theorem dX7_copyFrom_30 : decode cX7_copyFrom 30 = .ok (.aload_n 0, 1) := by decide +kernel
theorem dX7_copyFrom_31 : decode cX7_copyFrom 31 = .ok (.aload_n 1, 1) := by decide +kernel
theorem dX7_copyFrom_32 : decode cX7_copyFrom 32 = .ok (.getfield 34, 3) := by decide +kernel
theorem dX7_copyFrom_35 : decode cX7_copyFrom 35 = .ok (.putfield 34, 3) := by decide +kernel
theorem dX7_copyFrom_38 : decode cX7_copyFrom 38 = .ok (.return_, 1) := by decide +kernel
theorem dX7_compare_0 : decode cX7_compare 0 = .ok (.aload_n 0, 1) := by decide +kernel
theorem dX7_compare_1 : decode cX7_compare 1 = .ok (.getfield 9, 3) := by decide +kernel
theorem dX7_compare_4 : decode cX7_compare 4 = .ok (.iload_n 1, 1) := by decide +kernel
theorem dX7_compare_5 : decode cX7_compare 5 = .ok (.laload, 1) := by decide +kernel
theorem dX7_compare_6 : decode cX7_compare 6 = .ok (.aload_n 0, 1) := by decide +kernel
theorem dX7_compare_7 : decode cX7_compare 7 = .ok (.getfield 15, 3) := by decide +kernel
theorem dX7_compare_10 : decode cX7_compare 10 = .ok (.iload_n 2, 1) := by decide +kernel
theorem dX7_compare_11 : decode cX7_compare 11 = .ok (.laload, 1) := by decide +kernel
theorem dX7_compare_12 : decode cX7_compare 12 = .ok (.lmul, 1) := by decide +kernel
theorem dX7_compare_13 : decode cX7_compare 13 = .ok (.aload_n 0, 1) := by decide +kernel
theorem dX7_compare_14 : decode cX7_compare 14 = .ok (.getfield 9, 3) := by decide +kernel
theorem dX7_compare_17 : decode cX7_compare 17 = .ok (.iload_n 2, 1) := by decide +kernel
theorem dX7_compare_18 : decode cX7_compare 18 = .ok (.laload, 1) := by decide +kernel
theorem dX7_compare_19 : decode cX7_compare 19 = .ok (.aload_n 0, 1) := by decide +kernel
theorem dX7_compare_20 : decode cX7_compare 20 = .ok (.getfield 15, 3) := by decide +kernel
theorem dX7_compare_23 : decode cX7_compare 23 = .ok (.iload_n 1, 1) := by decide +kernel
theorem dX7_compare_24 : decode cX7_compare 24 = .ok (.laload, 1) := by decide +kernel
theorem dX7_compare_25 : decode cX7_compare 25 = .ok (.lmul, 1) := by decide +kernel
theorem dX7_compare_26 : decode cX7_compare 26 = .ok (.invokestatic 44, 3) := by decide +kernel
theorem dX7_compare_29 : decode cX7_compare 29 = .ok (.ireturn, 1) := by decide +kernel
theorem dX7_countOtherwise_0 : decode cX7_countOtherwise 0 = .ok (.iconst 0, 1) := by decide +kernel
theorem dX7_countOtherwise_1 : decode cX7_countOtherwise 1 = .ok (.istore_n 3, 1) := by decide +kernel
theorem dX7_countOtherwise_2 : decode cX7_countOtherwise 2 = .ok (.iconst 0, 1) := by decide +kernel
theorem dX7_countOtherwise_3 : decode cX7_countOtherwise 3 = .ok (.istore 4, 2) := by decide +kernel
theorem dX7_countOtherwise_5 : decode cX7_countOtherwise 5 = .ok (.iload 4, 2) := by decide +kernel
theorem dX7_countOtherwise_7 : decode cX7_countOtherwise 7 = .ok (.aload_n 1, 1) := by decide +kernel
theorem dX7_countOtherwise_8 : decode cX7_countOtherwise 8 = .ok (.getfield 50, 3) := by decide +kernel
theorem dX7_countOtherwise_11 : decode cX7_countOtherwise 11 = .ok (.if_icmp .ge 75, 3) := by decide +kernel
theorem dX7_countOtherwise_14 : decode cX7_countOtherwise 14 = .ok (.iconst 0, 1) := by decide +kernel
theorem dX7_countOtherwise_15 : decode cX7_countOtherwise 15 = .ok (.istore 5, 2) := by decide +kernel
theorem dX7_countOtherwise_17 : decode cX7_countOtherwise 17 = .ok (.iload 5, 2) := by decide +kernel
theorem dX7_countOtherwise_19 : decode cX7_countOtherwise 19 = .ok (.aload_n 1, 1) := by decide +kernel
theorem dX7_countOtherwise_20 : decode cX7_countOtherwise 20 = .ok (.getfield 53, 3) := by decide +kernel
theorem dX7_countOtherwise_23 : decode cX7_countOtherwise 23 = .ok (.if_icmp .ge 57, 3) := by decide +kernel
theorem dX7_countOtherwise_26 : decode cX7_countOtherwise 26 = .ok (.iload 4, 2) := by decide +kernel
theorem dX7_countOtherwise_28 : decode cX7_countOtherwise 28 = .ok (.iload 5, 2) := by decide +kernel
theorem dX7_countOtherwise_30 : decode cX7_countOtherwise 30 = .ok (.invokestatic 56, 3) := by decide +kernel
theorem dX7_countOtherwise_33 : decode cX7_countOtherwise 33 = .ok (.istore 6, 2) := by decide +kernel
theorem dX7_countOtherwise_35 : decode cX7_countOtherwise 35 = .ok (.aload_n 0, 1) := by decide +kernel
theorem dX7_countOtherwise_36 : decode cX7_countOtherwise 36 = .ok (.getfield 9, 3) := by decide +kernel
theorem dX7_countOtherwise_39 : decode cX7_countOtherwise 39 = .ok (.iload 6, 2) := by decide +kernel
theorem dX7_countOtherwise_41 : decode cX7_countOtherwise 41 = .ok (.laload, 1) := by decide +kernel
theorem dX7_countOtherwise_42 : decode cX7_countOtherwise 42 = .ok (.aload_n 2, 1) := by decide +kernel
theorem dX7_countOtherwise_43 : decode cX7_countOtherwise 43 = .ok (.getfield 9, 3) := by decide +kernel
theorem dX7_countOtherwise_46 : decode cX7_countOtherwise 46 = .ok (.iload 6, 2) := by decide +kernel
theorem dX7_countOtherwise_48 : decode cX7_countOtherwise 48 = .ok (.laload, 1) := by decide +kernel
theorem dX7_countOtherwise_49 : decode cX7_countOtherwise 49 = .ok (.lcmp, 1) := by decide +kernel
theorem dX7_countOtherwise_50 : decode cX7_countOtherwise 50 = .ok (.ifCond .ne 21, 3) := by decide +kernel
theorem dX7_countOtherwise_53 : decode cX7_countOtherwise 53 = .ok (.aload_n 0, 1) := by decide +kernel
theorem dX7_countOtherwise_54 : decode cX7_countOtherwise 54 = .ok (.getfield 15, 3) := by decide +kernel
theorem dX7_countOtherwise_57 : decode cX7_countOtherwise 57 = .ok (.iload 6, 2) := by decide +kernel
theorem dX7_countOtherwise_59 : decode cX7_countOtherwise 59 = .ok (.laload, 1) := by decide +kernel
theorem dX7_countOtherwise_60 : decode cX7_countOtherwise 60 = .ok (.aload_n 2, 1) := by decide +kernel
theorem dX7_countOtherwise_61 : decode cX7_countOtherwise 61 = .ok (.getfield 15, 3) := by decide +kernel
theorem dX7_countOtherwise_64 : decode cX7_countOtherwise 64 = .ok (.iload 6, 2) := by decide +kernel
theorem dX7_countOtherwise_66 : decode cX7_countOtherwise 66 = .ok (.laload, 1) := by decide +kernel
theorem dX7_countOtherwise_67 : decode cX7_countOtherwise 67 = .ok (.lcmp, 1) := by decide +kernel
theorem dX7_countOtherwise_68 : decode cX7_countOtherwise 68 = .ok (.ifCond .eq 6, 3) := by decide +kernel
theorem dX7_countOtherwise_71 : decode cX7_countOtherwise 71 = .ok (.iinc 3 1, 3) := by decide +kernel
theorem dX7_countOtherwise_74 : decode cX7_countOtherwise 74 = .ok (.iinc 5 1, 3) := by decide +kernel
theorem dX7_countOtherwise_77 : decode cX7_countOtherwise 77 = .ok (.goto (-60), 3) := by decide +kernel
theorem dX7_countOtherwise_80 : decode cX7_countOtherwise 80 = .ok (.iinc 4 1, 3) := by decide +kernel
theorem dX7_countOtherwise_83 : decode cX7_countOtherwise 83 = .ok (.goto (-78), 3) := by decide +kernel
theorem dX7_countOtherwise_86 : decode cX7_countOtherwise 86 = .ok (.iload_n 3, 1) := by decide +kernel
theorem dX7_countOtherwise_87 : decode cX7_countOtherwise 87 = .ok (.ireturn, 1) := by decide +kernel
theorem dX7_isSummed_0 : decode cX7_isSummed 0 = .ok (.aload 4, 2) := by decide +kernel
theorem dX7_isSummed_2 : decode cX7_isSummed 2 = .ok (.lconst 0, 1) := by decide +kernel
theorem dX7_isSummed_3 : decode cX7_isSummed 3 = .ok (.lconst 1, 1) := by decide +kernel
theorem dX7_isSummed_4 : decode cX7_isSummed 4 = .ok (.invokevirtual 60, 3) := by decide +kernel
theorem dX7_isSummed_7 : decode cX7_isSummed 7 = .ok (.iconst 0, 1) := by decide +kernel
theorem dX7_isSummed_8 : decode cX7_isSummed 8 = .ok (.istore 5, 2) := by decide +kernel
theorem dX7_isSummed_10 : decode cX7_isSummed 10 = .ok (.iload 5, 2) := by decide +kernel
theorem dX7_isSummed_12 : decode cX7_isSummed 12 = .ok (.aload_n 1, 1) := by decide +kernel
theorem dX7_isSummed_13 : decode cX7_isSummed 13 = .ok (.getfield 50, 3) := by decide +kernel
theorem dX7_isSummed_16 : decode cX7_isSummed 16 = .ok (.if_icmp .ge 82, 3) := by decide +kernel
theorem dX7_isSummed_19 : decode cX7_isSummed 19 = .ok (.iconst 0, 1) := by decide +kernel
theorem dX7_isSummed_20 : decode cX7_isSummed 20 = .ok (.istore 6, 2) := by decide +kernel
theorem dX7_isSummed_22 : decode cX7_isSummed 22 = .ok (.iload 6, 2) := by decide +kernel
theorem dX7_isSummed_24 : decode cX7_isSummed 24 = .ok (.aload_n 1, 1) := by decide +kernel
theorem dX7_isSummed_25 : decode cX7_isSummed 25 = .ok (.getfield 53, 3) := by decide +kernel
theorem dX7_isSummed_28 : decode cX7_isSummed 28 = .ok (.if_icmp .ge 64, 3) := by decide +kernel
theorem dX7_isSummed_31 : decode cX7_isSummed 31 = .ok (.aload_n 1, 1) := by decide +kernel
theorem dX7_isSummed_32 : decode cX7_isSummed 32 = .ok (.iload_n 2, 1) := by decide +kernel
theorem dX7_isSummed_33 : decode cX7_isSummed 33 = .ok (.iload 5, 2) := by decide +kernel
theorem dX7_isSummed_35 : decode cX7_isSummed 35 = .ok (.iload 6, 2) := by decide +kernel
theorem dX7_isSummed_37 : decode cX7_isSummed 37 = .ok (.invokevirtual 64, 3) := by decide +kernel
theorem dX7_isSummed_40 : decode cX7_isSummed 40 = .ok (.iload_n 3, 1) := by decide +kernel
theorem dX7_isSummed_41 : decode cX7_isSummed 41 = .ok (.if_icmp .eq 6, 3) := by decide +kernel
theorem dX7_isSummed_44 : decode cX7_isSummed 44 = .ok (.goto 42, 3) := by decide +kernel
theorem dX7_isSummed_47 : decode cX7_isSummed 47 = .ok (.aload 4, 2) := by decide +kernel
theorem dX7_isSummed_49 : decode cX7_isSummed 49 = .ok (.aload_n 0, 1) := by decide +kernel
theorem dX7_isSummed_50 : decode cX7_isSummed 50 = .ok (.getfield 9, 3) := by decide +kernel
theorem dX7_isSummed_53 : decode cX7_isSummed 53 = .ok (.iload 5, 2) := by decide +kernel
theorem dX7_isSummed_55 : decode cX7_isSummed 55 = .ok (.iload 6, 2) := by decide +kernel
theorem dX7_isSummed_57 : decode cX7_isSummed 57 = .ok (.invokestatic 56, 3) := by decide +kernel
theorem dX7_isSummed_60 : decode cX7_isSummed 60 = .ok (.laload, 1) := by decide +kernel
theorem dX7_isSummed_61 : decode cX7_isSummed 61 = .ok (.aload_n 0, 1) := by decide +kernel
theorem dX7_isSummed_62 : decode cX7_isSummed 62 = .ok (.getfield 15, 3) := by decide +kernel
theorem dX7_isSummed_65 : decode cX7_isSummed 65 = .ok (.iload 5, 2) := by decide +kernel
theorem dX7_isSummed_67 : decode cX7_isSummed 67 = .ok (.iload 6, 2) := by decide +kernel
theorem dX7_isSummed_69 : decode cX7_isSummed 69 = .ok (.invokestatic 56, 3) := by decide +kernel
theorem dX7_isSummed_72 : decode cX7_isSummed 72 = .ok (.laload, 1) := by decide +kernel
theorem dX7_isSummed_73 : decode cX7_isSummed 73 = .ok (.invokevirtual 68, 3) := by decide +kernel
theorem dX7_isSummed_76 : decode cX7_isSummed 76 = .ok (.aload 4, 2) := by decide +kernel
theorem dX7_isSummed_78 : decode cX7_isSummed 78 = .ok (.invokevirtual 71, 3) := by decide +kernel
theorem dX7_isSummed_81 : decode cX7_isSummed 81 = .ok (.ifCond .eq 5, 3) := by decide +kernel
theorem dX7_isSummed_84 : decode cX7_isSummed 84 = .ok (.iconst 0, 1) := by decide +kernel
theorem dX7_isSummed_85 : decode cX7_isSummed 85 = .ok (.ireturn, 1) := by decide +kernel
theorem dX7_isSummed_86 : decode cX7_isSummed 86 = .ok (.iinc 6 1, 3) := by decide +kernel
theorem dX7_isSummed_89 : decode cX7_isSummed 89 = .ok (.goto (-67), 3) := by decide +kernel
theorem dX7_isSummed_92 : decode cX7_isSummed 92 = .ok (.iinc 5 1, 3) := by decide +kernel
theorem dX7_isSummed_95 : decode cX7_isSummed 95 = .ok (.goto (-85), 3) := by decide +kernel
theorem dX7_isSummed_98 : decode cX7_isSummed 98 = .ok (.iconst 1, 1) := by decide +kernel
theorem dX7_isSummed_99 : decode cX7_isSummed 99 = .ok (.ireturn, 1) := by decide +kernel
theorem dX7_isFitted_0 : decode cX7_isFitted 0 = .ok (.iconst 0, 1) := by decide +kernel
theorem dX7_isFitted_1 : decode cX7_isFitted 1 = .ok (.istore_n 3, 1) := by decide +kernel
theorem dX7_isFitted_2 : decode cX7_isFitted 2 = .ok (.iload_n 3, 1) := by decide +kernel
theorem dX7_isFitted_3 : decode cX7_isFitted 3 = .ok (.aload_n 1, 1) := by decide +kernel
theorem dX7_isFitted_4 : decode cX7_isFitted 4 = .ok (.iload_n 2, 1) := by decide +kernel
theorem dX7_isFitted_5 : decode cX7_isFitted 5 = .ok (.invokevirtual 75, 3) := by decide +kernel
theorem dX7_isFitted_8 : decode cX7_isFitted 8 = .ok (.if_icmp .ge 49, 3) := by decide +kernel
theorem dX7_isFitted_11 : decode cX7_isFitted 11 = .ok (.aload_n 0, 1) := by decide +kernel
theorem dX7_isFitted_12 : decode cX7_isFitted 12 = .ok (.aload_n 1, 1) := by decide +kernel
theorem dX7_isFitted_13 : decode cX7_isFitted 13 = .ok (.iload_n 2, 1) := by decide +kernel
theorem dX7_isFitted_14 : decode cX7_isFitted 14 = .ok (.iload_n 3, 1) := by decide +kernel
theorem dX7_isFitted_15 : decode cX7_isFitted 15 = .ok (.aload_n 0, 1) := by decide +kernel
theorem dX7_isFitted_16 : decode cX7_isFitted 16 = .ok (.getfield 21, 3) := by decide +kernel
theorem dX7_isFitted_19 : decode cX7_isFitted 19 = .ok (.invokevirtual 79, 3) := by decide +kernel
theorem dX7_isFitted_22 : decode cX7_isFitted 22 = .ok (.ifCond .ne 5, 3) := by decide +kernel
theorem dX7_isFitted_25 : decode cX7_isFitted 25 = .ok (.iconst 0, 1) := by decide +kernel
theorem dX7_isFitted_26 : decode cX7_isFitted 26 = .ok (.ireturn, 1) := by decide +kernel
theorem dX7_isFitted_27 : decode cX7_isFitted 27 = .ok (.aload_n 0, 1) := by decide +kernel
theorem dX7_isFitted_28 : decode cX7_isFitted 28 = .ok (.getfield 21, 3) := by decide +kernel
theorem dX7_isFitted_31 : decode cX7_isFitted 31 = .ok (.getfield 83, 3) := by decide +kernel
theorem dX7_isFitted_34 : decode cX7_isFitted 34 = .ok (.lconst 0, 1) := by decide +kernel
theorem dX7_isFitted_35 : decode cX7_isFitted 35 = .ok (.lcmp, 1) := by decide +kernel
theorem dX7_isFitted_36 : decode cX7_isFitted 36 = .ok (.ifCond .le 15, 3) := by decide +kernel
theorem dX7_isFitted_39 : decode cX7_isFitted 39 = .ok (.aload_n 0, 1) := by decide +kernel
theorem dX7_isFitted_40 : decode cX7_isFitted 40 = .ok (.aload_n 1, 1) := by decide +kernel
theorem dX7_isFitted_41 : decode cX7_isFitted 41 = .ok (.iload_n 2, 1) := by decide +kernel
theorem dX7_isFitted_42 : decode cX7_isFitted 42 = .ok (.iload_n 3, 1) := by decide +kernel
theorem dX7_isFitted_43 : decode cX7_isFitted 43 = .ok (.invokevirtual 86, 3) := by decide +kernel
theorem dX7_isFitted_46 : decode cX7_isFitted 46 = .ok (.ifCond .ne 5, 3) := by decide +kernel
theorem dX7_isFitted_49 : decode cX7_isFitted 49 = .ok (.iconst 0, 1) := by decide +kernel
theorem dX7_isFitted_50 : decode cX7_isFitted 50 = .ok (.ireturn, 1) := by decide +kernel
theorem dX7_isFitted_51 : decode cX7_isFitted 51 = .ok (.iinc 3 1, 3) := by decide +kernel
theorem dX7_isFitted_54 : decode cX7_isFitted 54 = .ok (.goto (-52), 3) := by decide +kernel
theorem dX7_isFitted_57 : decode cX7_isFitted 57 = .ok (.iconst 1, 1) := by decide +kernel
theorem dX7_isFitted_58 : decode cX7_isFitted 58 = .ok (.ireturn, 1) := by decide +kernel
theorem dX7_isLineFitted_0 : decode cX7_isLineFitted 0 = .ok (.aload_n 1, 1) := by decide +kernel
theorem dX7_isLineFitted_1 : decode cX7_isLineFitted 1 = .ok (.getfield 90, 3) := by decide +kernel
theorem dX7_isLineFitted_4 : decode cX7_isLineFitted 4 = .ok (.iload_n 2, 1) := by decide +kernel
theorem dX7_isLineFitted_5 : decode cX7_isLineFitted 5 = .ok (.iload_n 3, 1) := by decide +kernel
theorem dX7_isLineFitted_6 : decode cX7_isLineFitted 6 = .ok (.invokestatic 56, 3) := by decide +kernel
theorem dX7_isLineFitted_9 : decode cX7_isLineFitted 9 = .ok (.iaload, 1) := by decide +kernel
theorem dX7_isLineFitted_10 : decode cX7_isLineFitted 10 = .ok (.i2l, 1) := by decide +kernel
theorem dX7_isLineFitted_11 : decode cX7_isLineFitted 11 = .ok (.aload_n 0, 1) := by decide +kernel
theorem dX7_isLineFitted_12 : decode cX7_isLineFitted 12 = .ok (.getfield 21, 3) := by decide +kernel
theorem dX7_isLineFitted_15 : decode cX7_isLineFitted 15 = .ok (.getfield 93, 3) := by decide +kernel
theorem dX7_isLineFitted_18 : decode cX7_isLineFitted 18 = .ok (.lmul, 1) := by decide +kernel
theorem dX7_isLineFitted_19 : decode cX7_isLineFitted 19 = .ok (.lstore 4, 2) := by decide +kernel
theorem dX7_isLineFitted_21 : decode cX7_isLineFitted 21 = .ok (.iconst 0, 1) := by decide +kernel
theorem dX7_isLineFitted_22 : decode cX7_isLineFitted 22 = .ok (.istore 6, 2) := by decide +kernel
theorem dX7_isLineFitted_24 : decode cX7_isLineFitted 24 = .ok (.iload 6, 2) := by decide +kernel
theorem dX7_isLineFitted_26 : decode cX7_isLineFitted 26 = .ok (.aload_n 1, 1) := by decide +kernel
theorem dX7_isLineFitted_27 : decode cX7_isLineFitted 27 = .ok (.getfield 50, 3) := by decide +kernel
theorem dX7_isLineFitted_30 : decode cX7_isLineFitted 30 = .ok (.if_icmp .ge 124, 3) := by decide +kernel
theorem dX7_isLineFitted_33 : decode cX7_isLineFitted 33 = .ok (.iconst 0, 1) := by decide +kernel
theorem dX7_isLineFitted_34 : decode cX7_isLineFitted 34 = .ok (.istore 7, 2) := by decide +kernel
theorem dX7_isLineFitted_36 : decode cX7_isLineFitted 36 = .ok (.iload 7, 2) := by decide +kernel
theorem dX7_isLineFitted_38 : decode cX7_isLineFitted 38 = .ok (.aload_n 1, 1) := by decide +kernel
theorem dX7_isLineFitted_39 : decode cX7_isLineFitted 39 = .ok (.getfield 53, 3) := by decide +kernel
theorem dX7_isLineFitted_42 : decode cX7_isLineFitted 42 = .ok (.if_icmp .ge 106, 3) := by decide +kernel
theorem dX7_isLineFitted_45 : decode cX7_isLineFitted 45 = .ok (.aload_n 1, 1) := by decide +kernel
theorem dX7_isLineFitted_46 : decode cX7_isLineFitted 46 = .ok (.iload_n 2, 1) := by decide +kernel
theorem dX7_isLineFitted_47 : decode cX7_isLineFitted 47 = .ok (.iload 6, 2) := by decide +kernel
theorem dX7_isLineFitted_49 : decode cX7_isLineFitted 49 = .ok (.iload 7, 2) := by decide +kernel
theorem dX7_isLineFitted_51 : decode cX7_isLineFitted 51 = .ok (.invokevirtual 64, 3) := by decide +kernel
theorem dX7_isLineFitted_54 : decode cX7_isLineFitted 54 = .ok (.iload_n 3, 1) := by decide +kernel
theorem dX7_isLineFitted_55 : decode cX7_isLineFitted 55 = .ok (.if_icmp .eq 6, 3) := by decide +kernel
theorem dX7_isLineFitted_58 : decode cX7_isLineFitted 58 = .ok (.goto 84, 3) := by decide +kernel
theorem dX7_isLineFitted_61 : decode cX7_isLineFitted 61 = .ok (.iload 6, 2) := by decide +kernel
theorem dX7_isLineFitted_63 : decode cX7_isLineFitted 63 = .ok (.iload 7, 2) := by decide +kernel
theorem dX7_isLineFitted_65 : decode cX7_isLineFitted 65 = .ok (.invokestatic 56, 3) := by decide +kernel
theorem dX7_isLineFitted_68 : decode cX7_isLineFitted 68 = .ok (.istore 8, 2) := by decide +kernel
theorem dX7_isLineFitted_70 : decode cX7_isLineFitted 70 = .ok (.aload_n 0, 1) := by decide +kernel
theorem dX7_isLineFitted_71 : decode cX7_isLineFitted 71 = .ok (.getfield 25, 3) := by decide +kernel
theorem dX7_isLineFitted_74 : decode cX7_isLineFitted 74 = .ok (.aload_n 0, 1) := by decide +kernel
theorem dX7_isLineFitted_75 : decode cX7_isLineFitted 75 = .ok (.getfield 9, 3) := by decide +kernel
theorem dX7_isLineFitted_78 : decode cX7_isLineFitted 78 = .ok (.iload 8, 2) := by decide +kernel
theorem dX7_isLineFitted_80 : decode cX7_isLineFitted 80 = .ok (.laload, 1) := by decide +kernel
theorem dX7_isLineFitted_81 : decode cX7_isLineFitted 81 = .ok (.lload 4, 2) := by decide +kernel
theorem dX7_isLineFitted_83 : decode cX7_isLineFitted 83 = .ok (.lmul, 1) := by decide +kernel
theorem dX7_isLineFitted_84 : decode cX7_isLineFitted 84 = .ok (.aload_n 0, 1) := by decide +kernel
theorem dX7_isLineFitted_85 : decode cX7_isLineFitted 85 = .ok (.getfield 15, 3) := by decide +kernel
theorem dX7_isLineFitted_88 : decode cX7_isLineFitted 88 = .ok (.iload 8, 2) := by decide +kernel
theorem dX7_isLineFitted_90 : decode cX7_isLineFitted 90 = .ok (.laload, 1) := by decide +kernel
theorem dX7_isLineFitted_91 : decode cX7_isLineFitted 91 = .ok (.aload_n 0, 1) := by decide +kernel
theorem dX7_isLineFitted_92 : decode cX7_isLineFitted 92 = .ok (.getfield 21, 3) := by decide +kernel
theorem dX7_isLineFitted_95 : decode cX7_isLineFitted 95 = .ok (.getfield 83, 3) := by decide +kernel
theorem dX7_isLineFitted_98 : decode cX7_isLineFitted 98 = .ok (.lmul, 1) := by decide +kernel
theorem dX7_isLineFitted_99 : decode cX7_isLineFitted 99 = .ok (.invokevirtual 60, 3) := by decide +kernel
theorem dX7_isLineFitted_102 : decode cX7_isLineFitted 102 = .ok (.aload_n 0, 1) := by decide +kernel
theorem dX7_isLineFitted_103 : decode cX7_isLineFitted 103 = .ok (.getfield 25, 3) := by decide +kernel
theorem dX7_isLineFitted_106 : decode cX7_isLineFitted 106 = .ok (.invokevirtual 71, 3) := by decide +kernel
theorem dX7_isLineFitted_109 : decode cX7_isLineFitted 109 = .ok (.ifCond .eq 5, 3) := by decide +kernel
theorem dX7_isLineFitted_112 : decode cX7_isLineFitted 112 = .ok (.iconst 0, 1) := by decide +kernel
theorem dX7_isLineFitted_113 : decode cX7_isLineFitted 113 = .ok (.ireturn, 1) := by decide +kernel
theorem dX7_isLineFitted_114 : decode cX7_isLineFitted 114 = .ok (.aload_n 0, 1) := by decide +kernel
theorem dX7_isLineFitted_115 : decode cX7_isLineFitted 115 = .ok (.getfield 9, 3) := by decide +kernel
theorem dX7_isLineFitted_118 : decode cX7_isLineFitted 118 = .ok (.iload 8, 2) := by decide +kernel
theorem dX7_isLineFitted_120 : decode cX7_isLineFitted 120 = .ok (.aload_n 0, 1) := by decide +kernel
theorem dX7_isLineFitted_121 : decode cX7_isLineFitted 121 = .ok (.getfield 25, 3) := by decide +kernel
theorem dX7_isLineFitted_124 : decode cX7_isLineFitted 124 = .ok (.getfield 83, 3) := by decide +kernel
theorem dX7_isLineFitted_127 : decode cX7_isLineFitted 127 = .ok (.lastore, 1) := by decide +kernel
theorem dX7_isLineFitted_128 : decode cX7_isLineFitted 128 = .ok (.aload_n 0, 1) := by decide +kernel
theorem dX7_isLineFitted_129 : decode cX7_isLineFitted 129 = .ok (.getfield 15, 3) := by decide +kernel
theorem dX7_isLineFitted_132 : decode cX7_isLineFitted 132 = .ok (.iload 8, 2) := by decide +kernel
theorem dX7_isLineFitted_134 : decode cX7_isLineFitted 134 = .ok (.aload_n 0, 1) := by decide +kernel
theorem dX7_isLineFitted_135 : decode cX7_isLineFitted 135 = .ok (.getfield 25, 3) := by decide +kernel
theorem dX7_isLineFitted_138 : decode cX7_isLineFitted 138 = .ok (.getfield 93, 3) := by decide +kernel
theorem dX7_isLineFitted_141 : decode cX7_isLineFitted 141 = .ok (.lastore, 1) := by decide +kernel
theorem dX7_isLineFitted_142 : decode cX7_isLineFitted 142 = .ok (.iinc 7 1, 3) := by decide +kernel
theorem dX7_isLineFitted_145 : decode cX7_isLineFitted 145 = .ok (.goto (-109), 3) := by decide +kernel
theorem dX7_isLineFitted_148 : decode cX7_isLineFitted 148 = .ok (.iinc 6 1, 3) := by decide +kernel
theorem dX7_isLineFitted_151 : decode cX7_isLineFitted 151 = .ok (.goto (-127), 3) := by decide +kernel
theorem dX7_isLineFitted_154 : decode cX7_isLineFitted 154 = .ok (.iconst 1, 1) := by decide +kernel
theorem dX7_isLineFitted_155 : decode cX7_isLineFitted 155 = .ok (.ireturn, 1) := by decide +kernel
theorem dX8_init_0 : decode cX8_init 0 = .ok (.aload_n 0, 1) := by decide +kernel
theorem dX8_init_1 : decode cX8_init 1 = .ok (.invokespecial 1, 3) := by decide +kernel
theorem dX8_init_4 : decode cX8_init 4 = .ok (.aload_n 0, 1) := by decide +kernel
theorem dX8_init_5 : decode cX8_init 5 = .ok (.bipush 6, 2) := by decide +kernel
theorem dX8_init_7 : decode cX8_init 7 = .ok (.bipush 60, 2) := by decide +kernel
theorem dX8_init_9 : decode cX8_init 9 = .ok (.multianewarray 9 2, 4) := by decide +kernel
theorem dX8_init_13 : decode cX8_init 13 = .ok (.putfield 11, 3) := by decide +kernel
theorem dX8_init_16 : decode cX8_init 16 = .ok (.aload_n 0, 1) := by decide +kernel
theorem dX8_init_17 : decode cX8_init 17 = .ok (.bipush 6, 2) := by decide +kernel
theorem dX8_init_19 : decode cX8_init 19 = .ok (.newarray .int, 2) := by decide +kernel
theorem dX8_init_21 : decode cX8_init 21 = .ok (.putfield 14, 3) := by decide +kernel
theorem dX8_init_24 : decode cX8_init 24 = .ok (.aload_n 0, 1) := by decide +kernel
theorem dX8_init_25 : decode cX8_init 25 = .ok (.bipush 6, 2) := by decide +kernel
theorem dX8_init_27 : decode cX8_init 27 = .ok (.newarray .int, 2) := by decide +kernel
theorem dX8_init_29 : decode cX8_init 29 = .ok (.putfield 18, 3) := by decide +kernel
theorem dX8_init_32 : decode cX8_init 32 = .ok (.iconst 0, 1) := by decide +kernel
theorem dX8_init_33 : decode cX8_init 33 = .ok (.istore_n 1, 1) := by decide +kernel
theorem dX8_init_34 : decode cX8_init 34 = .ok (.iload_n 1, 1) := by decide +kernel
theorem dX8_init_35 : decode cX8_init 35 = .ok (.bipush 6, 2) := by decide +kernel
theorem dX8_init_37 : decode cX8_init 37 = .ok (.if_icmp .ge 16, 3) := by decide +kernel
theorem dX8_init_40 : decode cX8_init 40 = .ok (.aload_n 0, 1) := by decide +kernel
theorem dX8_init_41 : decode cX8_init 41 = .ok (.getfield 14, 3) := by decide +kernel
theorem dX8_init_44 : decode cX8_init 44 = .ok (.iload_n 1, 1) := by decide +kernel
theorem dX8_init_45 : decode cX8_init 45 = .ok (.iconst (-1), 1) := by decide +kernel
theorem dX8_init_46 : decode cX8_init 46 = .ok (.iastore, 1) := by decide +kernel
theorem dX8_init_47 : decode cX8_init 47 = .ok (.iinc 1 1, 3) := by decide +kernel
theorem dX8_init_50 : decode cX8_init 50 = .ok (.goto (-16), 3) := by decide +kernel
theorem dX8_init_53 : decode cX8_init 53 = .ok (.return_, 1) := by decide +kernel
theorem dX8_hasTape_0 : decode cX8_hasTape 0 = .ok (.iload_n 1, 1) := by decide +kernel
theorem dX8_hasTape_1 : decode cX8_hasTape 1 = .ok (.ifCond .lt 13, 3) := by decide +kernel
theorem dX8_hasTape_4 : decode cX8_hasTape 4 = .ok (.iload_n 1, 1) := by decide +kernel
theorem dX8_hasTape_5 : decode cX8_hasTape 5 = .ok (.bipush 6, 2) := by decide +kernel
theorem dX8_hasTape_7 : decode cX8_hasTape 7 = .ok (.if_icmp .ge 7, 3) := by decide +kernel
theorem dX8_hasTape_10 : decode cX8_hasTape 10 = .ok (.iconst 1, 1) := by decide +kernel
theorem dX8_hasTape_11 : decode cX8_hasTape 11 = .ok (.goto 4, 3) := by decide +kernel
theorem dX8_hasTape_14 : decode cX8_hasTape 14 = .ok (.iconst 0, 1) := by decide +kernel
theorem dX8_hasTape_15 : decode cX8_hasTape 15 = .ok (.ireturn, 1) := by decide +kernel
theorem dX8_holds_0 : decode cX8_holds 0 = .ok (.aload_n 0, 1) := by decide +kernel
theorem dX8_holds_1 : decode cX8_holds 1 = .ok (.getfield 14, 3) := by decide +kernel
theorem dX8_holds_4 : decode cX8_holds 4 = .ok (.iload_n 1, 1) := by decide +kernel
theorem dX8_holds_5 : decode cX8_holds 5 = .ok (.iaload, 1) := by decide +kernel
theorem dX8_holds_6 : decode cX8_holds 6 = .ok (.iconst (-1), 1) := by decide +kernel
theorem dX8_holds_7 : decode cX8_holds 7 = .ok (.if_icmp .eq 7, 3) := by decide +kernel
theorem dX8_holds_10 : decode cX8_holds 10 = .ok (.iconst 1, 1) := by decide +kernel
theorem dX8_holds_11 : decode cX8_holds 11 = .ok (.goto 4, 3) := by decide +kernel
theorem dX8_holds_14 : decode cX8_holds 14 = .ok (.iconst 0, 1) := by decide +kernel
theorem dX8_holds_15 : decode cX8_holds 15 = .ok (.ireturn, 1) := by decide +kernel
theorem dX8_isOfInts_0 : decode cX8_isOfInts 0 = .ok (.aload_n 0, 1) := by decide +kernel
theorem dX8_isOfInts_1 : decode cX8_isOfInts 1 = .ok (.getfield 14, 3) := by decide +kernel
theorem dX8_isOfInts_4 : decode cX8_isOfInts 4 = .ok (.iload_n 1, 1) := by decide +kernel
theorem dX8_isOfInts_5 : decode cX8_isOfInts 5 = .ok (.iaload, 1) := by decide +kernel
theorem dX8_isOfInts_6 : decode cX8_isOfInts 6 = .ok (.iconst 2, 1) := by decide +kernel
theorem dX8_isOfInts_7 : decode cX8_isOfInts 7 = .ok (.if_icmp .ne 7, 3) := by decide +kernel
theorem dX8_isOfInts_10 : decode cX8_isOfInts 10 = .ok (.iconst 1, 1) := by decide +kernel
theorem dX8_isOfInts_11 : decode cX8_isOfInts 11 = .ok (.goto 4, 3) := by decide +kernel
theorem dX8_isOfInts_14 : decode cX8_isOfInts 14 = .ok (.iconst 0, 1) := by decide +kernel
theorem dX8_isOfInts_15 : decode cX8_isOfInts 15 = .ok (.ireturn, 1) := by decide +kernel
theorem dX8_isAlike_0 : decode cX8_isAlike 0 = .ok (.aload_n 0, 1) := by decide +kernel
theorem dX8_isAlike_1 : decode cX8_isAlike 1 = .ok (.getfield 14, 3) := by decide +kernel
theorem dX8_isAlike_4 : decode cX8_isAlike 4 = .ok (.iload_n 1, 1) := by decide +kernel
theorem dX8_isAlike_5 : decode cX8_isAlike 5 = .ok (.iaload, 1) := by decide +kernel
theorem dX8_isAlike_6 : decode cX8_isAlike 6 = .ok (.aload_n 0, 1) := by decide +kernel
theorem dX8_isAlike_7 : decode cX8_isAlike 7 = .ok (.getfield 14, 3) := by decide +kernel
theorem dX8_isAlike_10 : decode cX8_isAlike 10 = .ok (.iload_n 2, 1) := by decide +kernel
theorem dX8_isAlike_11 : decode cX8_isAlike 11 = .ok (.iaload, 1) := by decide +kernel
theorem dX8_isAlike_12 : decode cX8_isAlike 12 = .ok (.if_icmp .ne 7, 3) := by decide +kernel
theorem dX8_isAlike_15 : decode cX8_isAlike 15 = .ok (.iconst 1, 1) := by decide +kernel
theorem dX8_isAlike_16 : decode cX8_isAlike 16 = .ok (.goto 4, 3) := by decide +kernel
theorem dX8_isAlike_19 : decode cX8_isAlike 19 = .ok (.iconst 0, 1) := by decide +kernel
theorem dX8_isAlike_20 : decode cX8_isAlike 20 = .ok (.ireturn, 1) := by decide +kernel
theorem dX8_lengthOf_0 : decode cX8_lengthOf 0 = .ok (.aload_n 0, 1) := by decide +kernel
theorem dX8_lengthOf_1 : decode cX8_lengthOf 1 = .ok (.getfield 18, 3) := by decide +kernel
theorem dX8_lengthOf_4 : decode cX8_lengthOf 4 = .ok (.iload_n 1, 1) := by decide +kernel
theorem dX8_lengthOf_5 : decode cX8_lengthOf 5 = .ok (.iaload, 1) := by decide +kernel
theorem dX8_lengthOf_6 : decode cX8_lengthOf 6 = .ok (.ireturn, 1) := by decide +kernel
theorem dX8_hasItem_0 : decode cX8_hasItem 0 = .ok (.iload_n 2, 1) := by decide +kernel
theorem dX8_hasItem_1 : decode cX8_hasItem 1 = .ok (.ifCond .lt 17, 3) := by decide +kernel
theorem dX8_hasItem_4 : decode cX8_hasItem 4 = .ok (.iload_n 2, 1) := by decide +kernel
theorem dX8_hasItem_5 : decode cX8_hasItem 5 = .ok (.aload_n 0, 1) := by decide +kernel
theorem dX8_hasItem_6 : decode cX8_hasItem 6 = .ok (.getfield 18, 3) := by decide +kernel
theorem dX8_hasItem_9 : decode cX8_hasItem 9 = .ok (.iload_n 1, 1) := by decide +kernel
theorem dX8_hasItem_10 : decode cX8_hasItem 10 = .ok (.iaload, 1) := by decide +kernel
theorem dX8_hasItem_11 : decode cX8_hasItem 11 = .ok (.if_icmp .ge 7, 3) := by decide +kernel
theorem dX8_hasItem_14 : decode cX8_hasItem 14 = .ok (.iconst 1, 1) := by decide +kernel
theorem dX8_hasItem_15 : decode cX8_hasItem 15 = .ok (.goto 4, 3) := by decide +kernel
theorem dX8_hasItem_18 : decode cX8_hasItem 18 = .ok (.iconst 0, 1) := by decide +kernel
theorem dX8_hasItem_19 : decode cX8_hasItem 19 = .ok (.ireturn, 1) := by decide +kernel
theorem dX8_hasItems_0 : decode cX8_hasItems 0 = .ok (.iload_n 2, 1) := by decide +kernel
theorem dX8_hasItems_1 : decode cX8_hasItems 1 = .ok (.ifCond .lt 33, 3) := by decide +kernel
theorem dX8_hasItems_4 : decode cX8_hasItems 4 = .ok (.iload_n 3, 1) := by decide +kernel
theorem dX8_hasItems_5 : decode cX8_hasItems 5 = .ok (.ifCond .lt 29, 3) := by decide +kernel
theorem dX8_hasItems_8 : decode cX8_hasItems 8 = .ok (.iload_n 2, 1) := by decide +kernel
theorem dX8_hasItems_9 : decode cX8_hasItems 9 = .ok (.aload_n 0, 1) := by decide +kernel
theorem dX8_hasItems_10 : decode cX8_hasItems 10 = .ok (.getfield 18, 3) := by decide +kernel
theorem dX8_hasItems_13 : decode cX8_hasItems 13 = .ok (.iload_n 1, 1) := by decide +kernel
theorem dX8_hasItems_14 : decode cX8_hasItems 14 = .ok (.iaload, 1) := by decide +kernel
theorem dX8_hasItems_15 : decode cX8_hasItems 15 = .ok (.if_icmp .gt 19, 3) := by decide +kernel
theorem dX8_hasItems_18 : decode cX8_hasItems 18 = .ok (.iload_n 3, 1) := by decide +kernel
theorem dX8_hasItems_19 : decode cX8_hasItems 19 = .ok (.aload_n 0, 1) := by decide +kernel
theorem dX8_hasItems_20 : decode cX8_hasItems 20 = .ok (.getfield 18, 3) := by decide +kernel
theorem dX8_hasItems_23 : decode cX8_hasItems 23 = .ok (.iload_n 1, 1) := by decide +kernel
theorem dX8_hasItems_24 : decode cX8_hasItems 24 = .ok (.iaload, 1) := by decide +kernel
theorem dX8_hasItems_25 : decode cX8_hasItems 25 = .ok (.iload_n 2, 1) := by decide +kernel
theorem dX8_hasItems_26 : decode cX8_hasItems 26 = .ok (.isub, 1) := by decide +kernel
theorem dX8_hasItems_27 : decode cX8_hasItems 27 = .ok (.if_icmp .gt 7, 3) := by decide +kernel
theorem dX8_hasItems_30 : decode cX8_hasItems 30 = .ok (.iconst 1, 1) := by decide +kernel
theorem dX8_hasItems_31 : decode cX8_hasItems 31 = .ok (.goto 4, 3) := by decide +kernel
theorem dX8_hasItems_34 : decode cX8_hasItems 34 = .ok (.iconst 0, 1) := by decide +kernel
theorem dX8_hasItems_35 : decode cX8_hasItems 35 = .ok (.ireturn, 1) := by decide +kernel
theorem dX8_itemAt_0 : decode cX8_itemAt 0 = .ok (.aload_n 0, 1) := by decide +kernel
theorem dX8_itemAt_1 : decode cX8_itemAt 1 = .ok (.getfield 11, 3) := by decide +kernel
theorem dX8_itemAt_4 : decode cX8_itemAt 4 = .ok (.iload_n 1, 1) := by decide +kernel
theorem dX8_itemAt_5 : decode cX8_itemAt 5 = .ok (.aaload, 1) := by decide +kernel
theorem dX8_itemAt_6 : decode cX8_itemAt 6 = .ok (.iload_n 2, 1) := by decide +kernel
theorem dX8_itemAt_7 : decode cX8_itemAt 7 = .ok (.laload, 1) := by decide +kernel
theorem dX8_itemAt_8 : decode cX8_itemAt 8 = .ok (.lreturn, 1) := by decide +kernel
theorem dX8_become_0 : decode cX8_become 0 = .ok (.aload_n 0, 1) := by decide +kernel
theorem dX8_become_1 : decode cX8_become 1 = .ok (.getfield 14, 3) := by decide +kernel
theorem dX8_become_4 : decode cX8_become 4 = .ok (.iload_n 1, 1) := by decide +kernel
theorem dX8_become_5 : decode cX8_become 5 = .ok (.iload_n 2, 1) := by decide +kernel
theorem dX8_become_6 : decode cX8_become 6 = .ok (.iastore, 1) := by decide +kernel
theorem dX8_become_7 : decode cX8_become 7 = .ok (.aload_n 0, 1) := by decide +kernel
theorem dX8_become_8 : decode cX8_become 8 = .ok (.getfield 18, 3) := by decide +kernel
theorem dX8_become_11 : decode cX8_become 11 = .ok (.iload_n 1, 1) := by decide +kernel
theorem dX8_become_12 : decode cX8_become 12 = .ok (.iload_n 3, 1) := by decide +kernel
theorem dX8_become_13 : decode cX8_become 13 = .ok (.iastore, 1) := by decide +kernel
theorem dX8_become_14 : decode cX8_become 14 = .ok (.iconst 0, 1) := by decide +kernel
theorem dX8_become_15 : decode cX8_become 15 = .ok (.istore 4, 2) := by decide +kernel
theorem dX8_become_17 : decode cX8_become 17 = .ok (.iload 4, 2) := by decide +kernel
theorem dX8_become_19 : decode cX8_become 19 = .ok (.bipush 60, 2) := by decide +kernel
theorem dX8_become_21 : decode cX8_become 21 = .ok (.if_icmp .ge 19, 3) := by decide +kernel
theorem dX8_become_24 : decode cX8_become 24 = .ok (.aload_n 0, 1) := by decide +kernel
theorem dX8_become_25 : decode cX8_become 25 = .ok (.getfield 11, 3) := by decide +kernel
theorem dX8_become_28 : decode cX8_become 28 = .ok (.iload_n 1, 1) := by decide +kernel
theorem dX8_become_29 : decode cX8_become 29 = .ok (.aaload, 1) := by decide +kernel
theorem dX8_become_30 : decode cX8_become 30 = .ok (.iload 4, 2) := by decide +kernel
theorem dX8_become_32 : decode cX8_become 32 = .ok (.lconst 0, 1) := by decide +kernel
theorem dX8_become_33 : decode cX8_become 33 = .ok (.lastore, 1) := by decide +kernel
theorem dX8_become_34 : decode cX8_become 34 = .ok (.iinc 4 1, 3) := by decide +kernel
theorem dX8_become_37 : decode cX8_become 37 = .ok (.goto (-20), 3) := by decide +kernel
theorem dX8_become_40 : decode cX8_become 40 = .ok (.iconst 1, 1) := by decide +kernel
theorem dX8_become_41 : decode cX8_become 41 = .ok (.ireturn, 1) := by decide +kernel
theorem dX8_put_0 : decode cX8_put 0 = .ok (.aload_n 0, 1) := by decide +kernel
theorem dX8_put_1 : decode cX8_put 1 = .ok (.getfield 11, 3) := by decide +kernel
theorem dX8_put_4 : decode cX8_put 4 = .ok (.iload_n 1, 1) := by decide +kernel
theorem dX8_put_5 : decode cX8_put 5 = .ok (.aaload, 1) := by decide +kernel
theorem dX8_put_6 : decode cX8_put 6 = .ok (.iload_n 2, 1) := by decide +kernel
theorem dX8_put_7 : decode cX8_put 7 = .ok (.aload_n 0, 1) := by decide +kernel
theorem dX8_put_8 : decode cX8_put 8 = .ok (.getfield 14, 3) := by decide +kernel
theorem dX8_put_11 : decode cX8_put 11 = .ok (.iload_n 1, 1) := by decide +kernel
theorem dX8_put_12 : decode cX8_put 12 = .ok (.iaload, 1) := by decide +kernel
theorem dX8_put_13 : decode cX8_put 13 = .ok (.lload_n 3, 1) := by decide +kernel
theorem dX8_put_14 : decode cX8_put 14 = .ok (.invokestatic 21, 3) := by decide +kernel
theorem dX8_put_17 : decode cX8_put 17 = .ok (.lastore, 1) := by decide +kernel
theorem dX8_put_18 : decode cX8_put 18 = .ok (.iconst 1, 1) := by decide +kernel
theorem dX8_put_19 : decode cX8_put 19 = .ok (.ireturn, 1) := by decide +kernel
theorem dX8_cut_0 : decode cX8_cut 0 = .ok (.iload_n 0, 1) := by decide +kernel
theorem dX8_cut_1 : decode cX8_cut 1 = .ok (.tableswitch 61 0 4 #[35, 40, 45, 61, 49], 35) := by decide +kernel
theorem dX8_cut_36 : decode cX8_cut 36 = .ok (.lload_n 1, 1) := by decide +kernel
theorem dX8_cut_37 : decode cX8_cut 37 = .ok (.l2i, 1) := by decide +kernel
theorem dX8_cut_38 : decode cX8_cut 38 = .ok (.i2b, 1) := by decide +kernel
theorem dX8_cut_39 : decode cX8_cut 39 = .ok (.i2l, 1) := by decide +kernel
theorem dX8_cut_40 : decode cX8_cut 40 = .ok (.lreturn, 1) := by decide +kernel
theorem dX8_cut_41 : decode cX8_cut 41 = .ok (.lload_n 1, 1) := by decide +kernel
theorem dX8_cut_42 : decode cX8_cut 42 = .ok (.l2i, 1) := by decide +kernel
theorem dX8_cut_43 : decode cX8_cut 43 = .ok (.i2s, 1) := by decide +kernel
theorem dX8_cut_44 : decode cX8_cut 44 = .ok (.i2l, 1) := by decide +kernel
theorem dX8_cut_45 : decode cX8_cut 45 = .ok (.lreturn, 1) := by decide +kernel
theorem dX8_cut_46 : decode cX8_cut 46 = .ok (.lload_n 1, 1) := by decide +kernel
theorem dX8_cut_47 : decode cX8_cut 47 = .ok (.l2i, 1) := by decide +kernel
theorem dX8_cut_48 : decode cX8_cut 48 = .ok (.i2l, 1) := by decide +kernel
theorem dX8_cut_49 : decode cX8_cut 49 = .ok (.lreturn, 1) := by decide +kernel
theorem dX8_cut_50 : decode cX8_cut 50 = .ok (.lload_n 1, 1) := by decide +kernel
theorem dX8_cut_51 : decode cX8_cut 51 = .ok (.lconst 0, 1) := by decide +kernel
theorem dX8_cut_52 : decode cX8_cut 52 = .ok (.lcmp, 1) := by decide +kernel
theorem dX8_cut_53 : decode cX8_cut 53 = .ok (.ifCond .eq 7, 3) := by decide +kernel
theorem dX8_cut_56 : decode cX8_cut 56 = .ok (.lconst 1, 1) := by decide +kernel
theorem dX8_cut_57 : decode cX8_cut 57 = .ok (.goto 4, 3) := by decide +kernel
theorem dX8_cut_60 : decode cX8_cut 60 = .ok (.lconst 0, 1) := by decide +kernel
theorem dX8_cut_61 : decode cX8_cut 61 = .ok (.lreturn, 1) := by decide +kernel
theorem dX8_cut_62 : decode cX8_cut 62 = .ok (.lload_n 1, 1) := by decide +kernel
theorem dX8_cut_63 : decode cX8_cut 63 = .ok (.lreturn, 1) := by decide +kernel
theorem dX8_move_0 : decode cX8_move 0 = .ok (.aload_n 0, 1) := by decide +kernel
theorem dX8_move_1 : decode cX8_move 1 = .ok (.getfield 11, 3) := by decide +kernel
theorem dX8_move_4 : decode cX8_move 4 = .ok (.iload_n 1, 1) := by decide +kernel
theorem dX8_move_5 : decode cX8_move 5 = .ok (.aaload, 1) := by decide +kernel
theorem dX8_move_6 : decode cX8_move 6 = .ok (.iload_n 2, 1) := by decide +kernel
theorem dX8_move_7 : decode cX8_move 7 = .ok (.aload_n 0, 1) := by decide +kernel
theorem dX8_move_8 : decode cX8_move 8 = .ok (.getfield 11, 3) := by decide +kernel
theorem dX8_move_11 : decode cX8_move 11 = .ok (.iload_n 3, 1) := by decide +kernel
theorem dX8_move_12 : decode cX8_move 12 = .ok (.aaload, 1) := by decide +kernel
theorem dX8_move_13 : decode cX8_move 13 = .ok (.iload 4, 2) := by decide +kernel
theorem dX8_move_15 : decode cX8_move 15 = .ok (.iload 5, 2) := by decide +kernel
theorem dX8_move_17 : decode cX8_move 17 = .ok (.invokestatic 25, 3) := by decide +kernel
theorem dX8_move_20 : decode cX8_move 20 = .ok (.iload 5, 2) := by decide +kernel
theorem dX8_move_22 : decode cX8_move 22 = .ok (.ireturn, 1) := by decide +kernel
theorem dX9_init_0 : decode cX9_init 0 = .ok (.aload_n 0, 1) := by decide +kernel
theorem dX9_init_1 : decode cX9_init 1 = .ok (.invokespecial 3, 3) := by decide +kernel
theorem dX9_init_4 : decode cX9_init 4 = .ok (.aload_n 0, 1) := by decide +kernel
theorem dX9_init_5 : decode cX9_init 5 = .ok (.new 9, 3) := by decide +kernel
theorem dX9_init_8 : decode cX9_init 8 = .ok (.dup, 1) := by decide +kernel
theorem dX9_init_9 : decode cX9_init 9 = .ok (.invokespecial 11, 3) := by decide +kernel
theorem dX9_init_12 : decode cX9_init 12 = .ok (.putfield 12, 3) := by decide +kernel
theorem dX9_init_15 : decode cX9_init 15 = .ok (.aload_n 0, 1) := by decide +kernel
theorem dX9_init_16 : decode cX9_init 16 = .ok (.new 9, 3) := by decide +kernel
theorem dX9_init_19 : decode cX9_init 19 = .ok (.dup, 1) := by decide +kernel
theorem dX9_init_20 : decode cX9_init 20 = .ok (.invokespecial 11, 3) := by decide +kernel
theorem dX9_init_23 : decode cX9_init 23 = .ok (.putfield 18, 3) := by decide +kernel
theorem dX9_init_26 : decode cX9_init 26 = .ok (.aload_n 0, 1) := by decide +kernel
theorem dX9_init_27 : decode cX9_init 27 = .ok (.new 21, 3) := by decide +kernel
theorem dX9_init_30 : decode cX9_init 30 = .ok (.dup, 1) := by decide +kernel
theorem dX9_init_31 : decode cX9_init 31 = .ok (.invokespecial 23, 3) := by decide +kernel
theorem dX9_init_34 : decode cX9_init 34 = .ok (.putfield 24, 3) := by decide +kernel
theorem dX9_init_37 : decode cX9_init 37 = .ok (.aload_n 0, 1) := by decide +kernel
theorem dX9_init_38 : decode cX9_init 38 = .ok (.new 28, 3) := by decide +kernel
theorem dX9_init_41 : decode cX9_init 41 = .ok (.dup, 1) := by decide +kernel
theorem dX9_init_42 : decode cX9_init 42 = .ok (.invokespecial 30, 3) := by decide +kernel
theorem dX9_init_45 : decode cX9_init 45 = .ok (.putfield 31, 3) := by decide +kernel
theorem dX9_init_48 : decode cX9_init 48 = .ok (.aload_n 0, 1) := by decide +kernel
theorem dX9_init_49 : decode cX9_init 49 = .ok (.new 35, 3) := by decide +kernel
theorem dX9_init_52 : decode cX9_init 52 = .ok (.dup, 1) := by decide +kernel
theorem dX9_init_53 : decode cX9_init 53 = .ok (.invokespecial 37, 3) := by decide +kernel
theorem dX9_init_56 : decode cX9_init 56 = .ok (.putfield 38, 3) := by decide +kernel
theorem dX9_init_59 : decode cX9_init 59 = .ok (.aload_n 0, 1) := by decide +kernel
theorem dX9_init_60 : decode cX9_init 60 = .ok (.new 42, 3) := by decide +kernel
theorem dX9_init_63 : decode cX9_init 63 = .ok (.dup, 1) := by decide +kernel
theorem dX9_init_64 : decode cX9_init 64 = .ok (.invokespecial 44, 3) := by decide +kernel
theorem dX9_init_67 : decode cX9_init 67 = .ok (.putfield 45, 3) := by decide +kernel
theorem dX9_init_70 : decode cX9_init 70 = .ok (.aload_n 0, 1) := by decide +kernel
theorem dX9_init_71 : decode cX9_init 71 = .ok (.new 49, 3) := by decide +kernel
theorem dX9_init_74 : decode cX9_init 74 = .ok (.dup, 1) := by decide +kernel
theorem dX9_init_75 : decode cX9_init 75 = .ok (.invokespecial 51, 3) := by decide +kernel
theorem dX9_init_78 : decode cX9_init 78 = .ok (.putfield 52, 3) := by decide +kernel
theorem dX9_init_81 : decode cX9_init 81 = .ok (.aload_n 0, 1) := by decide +kernel
theorem dX9_init_82 : decode cX9_init 82 = .ok (.new 49, 3) := by decide +kernel
theorem dX9_init_85 : decode cX9_init 85 = .ok (.dup, 1) := by decide +kernel
theorem dX9_init_86 : decode cX9_init 86 = .ok (.invokespecial 51, 3) := by decide +kernel
theorem dX9_init_89 : decode cX9_init 89 = .ok (.putfield 56, 3) := by decide +kernel
theorem dX9_init_92 : decode cX9_init 92 = .ok (.aload_n 0, 1) := by decide +kernel
theorem dX9_init_93 : decode cX9_init 93 = .ok (.new 59, 3) := by decide +kernel
theorem dX9_init_96 : decode cX9_init 96 = .ok (.dup, 1) := by decide +kernel
theorem dX9_init_97 : decode cX9_init 97 = .ok (.invokespecial 61, 3) := by decide +kernel
theorem dX9_init_100 : decode cX9_init 100 = .ok (.putfield 62, 3) := by decide +kernel
theorem dX9_init_103 : decode cX9_init 103 = .ok (.aload_n 0, 1) := by decide +kernel
theorem dX9_init_104 : decode cX9_init 104 = .ok (.new 59, 3) := by decide +kernel
theorem dX9_init_107 : decode cX9_init 107 = .ok (.dup, 1) := by decide +kernel
theorem dX9_init_108 : decode cX9_init 108 = .ok (.invokespecial 61, 3) := by decide +kernel
theorem dX9_init_111 : decode cX9_init 111 = .ok (.putfield 66, 3) := by decide +kernel
theorem dX9_init_114 : decode cX9_init 114 = .ok (.aload_n 0, 1) := by decide +kernel
theorem dX9_init_115 : decode cX9_init 115 = .ok (.new 59, 3) := by decide +kernel
theorem dX9_init_118 : decode cX9_init 118 = .ok (.dup, 1) := by decide +kernel
theorem dX9_init_119 : decode cX9_init 119 = .ok (.invokespecial 61, 3) := by decide +kernel
theorem dX9_init_122 : decode cX9_init 122 = .ok (.putfield 69, 3) := by decide +kernel
theorem dX9_init_125 : decode cX9_init 125 = .ok (.aload_n 0, 1) := by decide +kernel
theorem dX9_init_126 : decode cX9_init 126 = .ok (.new 72, 3) := by decide +kernel
theorem dX9_init_129 : decode cX9_init 129 = .ok (.dup, 1) := by decide +kernel
theorem dX9_init_130 : decode cX9_init 130 = .ok (.invokespecial 74, 3) := by decide +kernel
theorem dX9_init_133 : decode cX9_init 133 = .ok (.putfield 75, 3) := by decide +kernel
theorem dX9_init_136 : decode cX9_init 136 = .ok (.return_, 1) := by decide +kernel
theorem dX9_size_0 : decode cX9_size 0 = .ok (.iload_n 1, 1) := by decide +kernel
theorem dX9_size_1 : decode cX9_size 1 = .ok (.iconst 1, 1) := by decide +kernel
theorem dX9_size_2 : decode cX9_size 2 = .ok (.if_icmp .lt 18, 3) := by decide +kernel
theorem dX9_size_5 : decode cX9_size 5 = .ok (.iload_n 1, 1) := by decide +kernel
theorem dX9_size_6 : decode cX9_size 6 = .ok (.iconst 3, 1) := by decide +kernel
theorem dX9_size_7 : decode cX9_size 7 = .ok (.if_icmp .gt 13, 3) := by decide +kernel
theorem dX9_size_10 : decode cX9_size 10 = .ok (.iload_n 2, 1) := by decide +kernel
theorem dX9_size_11 : decode cX9_size 11 = .ok (.iconst 1, 1) := by decide +kernel
theorem dX9_size_12 : decode cX9_size 12 = .ok (.if_icmp .lt 8, 3) := by decide +kernel
theorem dX9_size_15 : decode cX9_size 15 = .ok (.iload_n 2, 1) := by decide +kernel
theorem dX9_size_16 : decode cX9_size 16 = .ok (.iconst 3, 1) := by decide +kernel
theorem dX9_size_17 : decode cX9_size 17 = .ok (.if_icmp .le 6, 3) := by decide +kernel
theorem dX9_size_20 : decode cX9_size 20 = .ok (.bipush (-2), 2) := by decide +kernel
theorem dX9_size_22 : decode cX9_size 22 = .ok (.ireturn, 1) := by decide +kernel
theorem dX9_size_23 : decode cX9_size 23 = .ok (.aload_n 0, 1) := by decide +kernel
theorem dX9_size_24 : decode cX9_size 24 = .ok (.getfield 12, 3) := by decide +kernel
theorem dX9_size_27 : decode cX9_size 27 = .ok (.iload_n 1, 1) := by decide +kernel
theorem dX9_size_28 : decode cX9_size 28 = .ok (.iload_n 2, 1) := by decide +kernel
theorem dX9_size_29 : decode cX9_size 29 = .ok (.invokevirtual 79, 3) := by decide +kernel
theorem dX9_size_32 : decode cX9_size 32 = .ok (.aload_n 0, 1) := by decide +kernel
theorem dX9_size_33 : decode cX9_size 33 = .ok (.getfield 12, 3) := by decide +kernel
theorem dX9_size_36 : decode cX9_size 36 = .ok (.getfield 83, 3) := by decide +kernel
theorem dX9_size_39 : decode cX9_size 39 = .ok (.invokevirtual 86, 3) := by decide +kernel
theorem dX9_size_42 : decode cX9_size 42 = .ok (.ireturn, 1) := by decide +kernel
theorem dX9_tell_0 : decode cX9_tell 0 = .ok (.aload_n 0, 1) := by decide +kernel
theorem dX9_tell_1 : decode cX9_tell 1 = .ok (.getfield 12, 3) := by decide +kernel
theorem dX9_tell_4 : decode cX9_tell 4 = .ok (.getfield 83, 3) := by decide +kernel
theorem dX9_tell_7 : decode cX9_tell 7 = .ok (.astore 4, 2) := by decide +kernel
theorem dX9_tell_9 : decode cX9_tell 9 = .ok (.aload 4, 2) := by decide +kernel
theorem dX9_tell_11 : decode cX9_tell 11 = .ok (.iload_n 1, 1) := by decide +kernel
theorem dX9_tell_12 : decode cX9_tell 12 = .ok (.iload_n 2, 1) := by decide +kernel
theorem dX9_tell_13 : decode cX9_tell 13 = .ok (.invokevirtual 90, 3) := by decide +kernel
theorem dX9_tell_16 : decode cX9_tell 16 = .ok (.ifCond .ne 5, 3) := by decide +kernel
theorem dX9_tell_19 : decode cX9_tell 19 = .ok (.iconst (-1), 1) := by decide +kernel
theorem dX9_tell_20 : decode cX9_tell 20 = .ok (.ireturn, 1) := by decide +kernel
theorem dX9_tell_21 : decode cX9_tell 21 = .ok (.iload_n 3, 1) := by decide +kernel
theorem dX9_tell_22 : decode cX9_tell 22 = .ok (.ifCond .lt 9, 3) := by decide +kernel
theorem dX9_tell_25 : decode cX9_tell 25 = .ok (.iload_n 3, 1) := by decide +kernel
theorem dX9_tell_26 : decode cX9_tell 26 = .ok (.bipush 20, 2) := by decide +kernel
theorem dX9_tell_28 : decode cX9_tell 28 = .ok (.if_icmp .le 6, 3) := by decide +kernel
theorem dX9_tell_31 : decode cX9_tell 31 = .ok (.bipush (-2), 2) := by decide +kernel
theorem dX9_tell_33 : decode cX9_tell 33 = .ok (.ireturn, 1) := by decide +kernel
theorem dX9_tell_34 : decode cX9_tell 34 = .ok (.aload 4, 2) := by decide +kernel
theorem dX9_tell_36 : decode cX9_tell 36 = .ok (.getfield 94, 3) := by decide +kernel
theorem dX9_tell_39 : decode cX9_tell 39 = .ok (.iload_n 1, 1) := by decide +kernel
theorem dX9_tell_40 : decode cX9_tell 40 = .ok (.iload_n 2, 1) := by decide +kernel
theorem dX9_tell_41 : decode cX9_tell 41 = .ok (.invokestatic 98, 3) := by decide +kernel
theorem dX9_tell_44 : decode cX9_tell 44 = .ok (.iaload, 1) := by decide +kernel
theorem dX9_tell_45 : decode cX9_tell 45 = .ok (.istore 5, 2) := by decide +kernel
theorem dX9_tell_47 : decode cX9_tell 47 = .ok (.aload 4, 2) := by decide +kernel
theorem dX9_tell_49 : decode cX9_tell 49 = .ok (.getfield 94, 3) := by decide +kernel
theorem dX9_tell_52 : decode cX9_tell 52 = .ok (.iload_n 1, 1) := by decide +kernel
theorem dX9_tell_53 : decode cX9_tell 53 = .ok (.iload_n 2, 1) := by decide +kernel
theorem dX9_tell_54 : decode cX9_tell 54 = .ok (.invokestatic 98, 3) := by decide +kernel
theorem dX9_tell_57 : decode cX9_tell 57 = .ok (.iload_n 3, 1) := by decide +kernel
theorem dX9_tell_58 : decode cX9_tell 58 = .ok (.iastore, 1) := by decide +kernel
theorem dX9_tell_59 : decode cX9_tell 59 = .ok (.aload_n 0, 1) := by decide +kernel
theorem dX9_tell_60 : decode cX9_tell 60 = .ok (.getfield 12, 3) := by decide +kernel
theorem dX9_tell_63 : decode cX9_tell 63 = .ok (.getfield 102, 3) := by decide +kernel
theorem dX9_tell_66 : decode cX9_tell 66 = .ok (.aload 4, 2) := by decide +kernel
theorem dX9_tell_68 : decode cX9_tell 68 = .ok (.invokevirtual 105, 3) := by decide +kernel
theorem dX9_tell_71 : decode cX9_tell 71 = .ok (.iload 5, 2) := by decide +kernel
theorem dX9_tell_73 : decode cX9_tell 73 = .ok (.ireturn, 1) := by decide +kernel
theorem dX9_mark_0 : decode cX9_mark 0 = .ok (.aload_n 0, 1) := by decide +kernel
theorem dX9_mark_1 : decode cX9_mark 1 = .ok (.getfield 12, 3) := by decide +kernel
theorem dX9_mark_4 : decode cX9_mark 4 = .ok (.getfield 83, 3) := by decide +kernel
theorem dX9_mark_7 : decode cX9_mark 7 = .ok (.iload_n 1, 1) := by decide +kernel
theorem dX9_mark_8 : decode cX9_mark 8 = .ok (.iload_n 2, 1) := by decide +kernel
theorem dX9_mark_9 : decode cX9_mark 9 = .ok (.invokevirtual 90, 3) := by decide +kernel
theorem dX9_mark_12 : decode cX9_mark 12 = .ok (.ifCond .ne 5, 3) := by decide +kernel
theorem dX9_mark_15 : decode cX9_mark 15 = .ok (.iconst (-1), 1) := by decide +kernel
theorem dX9_mark_16 : decode cX9_mark 16 = .ok (.ireturn, 1) := by decide +kernel
theorem dX9_mark_17 : decode cX9_mark 17 = .ok (.iload_n 3, 1) := by decide +kernel
theorem dX9_mark_18 : decode cX9_mark 18 = .ok (.ifCond .lt 8, 3) := by decide +kernel
theorem dX9_mark_21 : decode cX9_mark 21 = .ok (.iload_n 3, 1) := by decide +kernel
theorem dX9_mark_22 : decode cX9_mark 22 = .ok (.iconst 2, 1) := by decide +kernel
theorem dX9_mark_23 : decode cX9_mark 23 = .ok (.if_icmp .le 6, 3) := by decide +kernel
theorem dX9_mark_26 : decode cX9_mark 26 = .ok (.bipush (-2), 2) := by decide +kernel
theorem dX9_mark_28 : decode cX9_mark 28 = .ok (.ireturn, 1) := by decide +kernel
theorem dX9_mark_29 : decode cX9_mark 29 = .ok (.aload_n 0, 1) := by decide +kernel
theorem dX9_mark_30 : decode cX9_mark 30 = .ok (.getfield 12, 3) := by decide +kernel
theorem dX9_mark_33 : decode cX9_mark 33 = .ok (.getfield 83, 3) := by decide +kernel
theorem dX9_mark_36 : decode cX9_mark 36 = .ok (.getfield 109, 3) := by decide +kernel
theorem dX9_mark_39 : decode cX9_mark 39 = .ok (.iload_n 1, 1) := by decide +kernel
theorem dX9_mark_40 : decode cX9_mark 40 = .ok (.iload_n 2, 1) := by decide +kernel
theorem dX9_mark_41 : decode cX9_mark 41 = .ok (.invokestatic 98, 3) := by decide +kernel
theorem dX9_mark_44 : decode cX9_mark 44 = .ok (.iaload, 1) := by decide +kernel
theorem dX9_mark_45 : decode cX9_mark 45 = .ok (.istore 4, 2) := by decide +kernel
theorem dX9_mark_47 : decode cX9_mark 47 = .ok (.aload_n 0, 1) := by decide +kernel
theorem dX9_mark_48 : decode cX9_mark 48 = .ok (.getfield 12, 3) := by decide +kernel
theorem dX9_mark_51 : decode cX9_mark 51 = .ok (.getfield 83, 3) := by decide +kernel
theorem dX9_mark_54 : decode cX9_mark 54 = .ok (.getfield 109, 3) := by decide +kernel
theorem dX9_mark_57 : decode cX9_mark 57 = .ok (.iload_n 1, 1) := by decide +kernel
theorem dX9_mark_58 : decode cX9_mark 58 = .ok (.iload_n 2, 1) := by decide +kernel
theorem dX9_mark_59 : decode cX9_mark 59 = .ok (.invokestatic 98, 3) := by decide +kernel
theorem dX9_mark_62 : decode cX9_mark 62 = .ok (.iload_n 3, 1) := by decide +kernel
theorem dX9_mark_63 : decode cX9_mark 63 = .ok (.iastore, 1) := by decide +kernel
theorem dX9_mark_64 : decode cX9_mark 64 = .ok (.iload 4, 2) := by decide +kernel
theorem dX9_mark_66 : decode cX9_mark 66 = .ok (.ireturn, 1) := by decide +kernel
theorem dX9_margin_0 : decode cX9_margin 0 = .ok (.aload_n 0, 1) := by decide +kernel
theorem dX9_margin_1 : decode cX9_margin 1 = .ok (.getfield 12, 3) := by decide +kernel
theorem dX9_margin_4 : decode cX9_margin 4 = .ok (.getfield 83, 3) := by decide +kernel
theorem dX9_margin_7 : decode cX9_margin 7 = .ok (.iload_n 1, 1) := by decide +kernel
theorem dX9_margin_8 : decode cX9_margin 8 = .ok (.iload_n 2, 1) := by decide +kernel
theorem dX9_margin_9 : decode cX9_margin 9 = .ok (.invokevirtual 112, 3) := by decide +kernel
theorem dX9_margin_12 : decode cX9_margin 12 = .ok (.ifCond .ne 5, 3) := by decide +kernel
theorem dX9_margin_15 : decode cX9_margin 15 = .ok (.iconst (-1), 1) := by decide +kernel
theorem dX9_margin_16 : decode cX9_margin 16 = .ok (.ireturn, 1) := by decide +kernel
theorem dX9_margin_17 : decode cX9_margin 17 = .ok (.iload_n 3, 1) := by decide +kernel
theorem dX9_margin_18 : decode cX9_margin 18 = .ok (.ifCond .lt 9, 3) := by decide +kernel
theorem dX9_margin_21 : decode cX9_margin 21 = .ok (.iload_n 3, 1) := by decide +kernel
theorem dX9_margin_22 : decode cX9_margin 22 = .ok (.bipush 60, 2) := by decide +kernel
theorem dX9_margin_24 : decode cX9_margin 24 = .ok (.if_icmp .le 6, 3) := by decide +kernel
theorem dX9_margin_27 : decode cX9_margin 27 = .ok (.bipush (-2), 2) := by decide +kernel
theorem dX9_margin_29 : decode cX9_margin 29 = .ok (.ireturn, 1) := by decide +kernel
theorem dX9_margin_30 : decode cX9_margin 30 = .ok (.aload_n 0, 1) := by decide +kernel
theorem dX9_margin_31 : decode cX9_margin 31 = .ok (.getfield 12, 3) := by decide +kernel
theorem dX9_margin_34 : decode cX9_margin 34 = .ok (.getfield 83, 3) := by decide +kernel
theorem dX9_margin_37 : decode cX9_margin 37 = .ok (.getfield 115, 3) := by decide +kernel
theorem dX9_margin_40 : decode cX9_margin 40 = .ok (.iload_n 1, 1) := by decide +kernel
theorem dX9_margin_41 : decode cX9_margin 41 = .ok (.iload_n 2, 1) := by decide +kernel
theorem dX9_margin_42 : decode cX9_margin 42 = .ok (.invokestatic 98, 3) := by decide +kernel
theorem dX9_margin_45 : decode cX9_margin 45 = .ok (.iaload, 1) := by decide +kernel
theorem dX9_margin_46 : decode cX9_margin 46 = .ok (.istore 4, 2) := by decide +kernel
theorem dX9_margin_48 : decode cX9_margin 48 = .ok (.aload_n 0, 1) := by decide +kernel
theorem dX9_margin_49 : decode cX9_margin 49 = .ok (.getfield 12, 3) := by decide +kernel
theorem dX9_margin_52 : decode cX9_margin 52 = .ok (.getfield 83, 3) := by decide +kernel
theorem dX9_margin_55 : decode cX9_margin 55 = .ok (.getfield 115, 3) := by decide +kernel
theorem dX9_margin_58 : decode cX9_margin 58 = .ok (.iload_n 1, 1) := by decide +kernel
theorem dX9_margin_59 : decode cX9_margin 59 = .ok (.iload_n 2, 1) := by decide +kernel
theorem dX9_margin_60 : decode cX9_margin 60 = .ok (.invokestatic 98, 3) := by decide +kernel
theorem dX9_margin_63 : decode cX9_margin 63 = .ok (.iload_n 3, 1) := by decide +kernel
theorem dX9_margin_64 : decode cX9_margin 64 = .ok (.iastore, 1) := by decide +kernel
theorem dX9_margin_65 : decode cX9_margin 65 = .ok (.iload 4, 2) := by decide +kernel
theorem dX9_margin_67 : decode cX9_margin 67 = .ok (.ireturn, 1) := by decide +kernel
theorem dX9_three_0 : decode cX9_three 0 = .ok (.aload_n 0, 1) := by decide +kernel
theorem dX9_three_1 : decode cX9_three 1 = .ok (.getfield 12, 3) := by decide +kernel
theorem dX9_three_4 : decode cX9_three 4 = .ok (.getfield 83, 3) := by decide +kernel
theorem dX9_three_7 : decode cX9_three 7 = .ok (.getfield 118, 3) := by decide +kernel
theorem dX9_three_10 : decode cX9_three 10 = .ok (.invokestatic 122, 3) := by decide +kernel
theorem dX9_three_13 : decode cX9_three 13 = .ok (.istore_n 2, 1) := by decide +kernel
theorem dX9_three_14 : decode cX9_three 14 = .ok (.aload_n 0, 1) := by decide +kernel
theorem dX9_three_15 : decode cX9_three 15 = .ok (.getfield 12, 3) := by decide +kernel
theorem dX9_three_18 : decode cX9_three 18 = .ok (.getfield 83, 3) := by decide +kernel
theorem dX9_three_21 : decode cX9_three 21 = .ok (.iload_n 1, 1) := by decide +kernel
theorem dX9_three_22 : decode cX9_three 22 = .ok (.putfield 118, 3) := by decide +kernel
theorem dX9_three_25 : decode cX9_three 25 = .ok (.iload_n 2, 1) := by decide +kernel
theorem dX9_three_26 : decode cX9_three 26 = .ok (.ireturn, 1) := by decide +kernel
theorem dX9_of_0 : decode cX9_of 0 = .ok (.aload_n 0, 1) := by decide +kernel
theorem dX9_of_1 : decode cX9_of 1 = .ok (.getfield 12, 3) := by decide +kernel
theorem dX9_of_4 : decode cX9_of 4 = .ok (.getfield 83, 3) := by decide +kernel
theorem dX9_of_7 : decode cX9_of 7 = .ok (.iload_n 1, 1) := by decide +kernel
theorem dX9_of_8 : decode cX9_of 8 = .ok (.iload_n 2, 1) := by decide +kernel
theorem dX9_of_9 : decode cX9_of 9 = .ok (.invokevirtual 90, 3) := by decide +kernel
theorem dX9_of_12 : decode cX9_of 12 = .ok (.ifCond .ne 5, 3) := by decide +kernel
theorem dX9_of_15 : decode cX9_of 15 = .ok (.iconst (-1), 1) := by decide +kernel
theorem dX9_of_16 : decode cX9_of 16 = .ok (.ireturn, 1) := by decide +kernel
theorem dX9_of_17 : decode cX9_of 17 = .ok (.iload_n 3, 1) := by decide +kernel
theorem dX9_of_18 : decode cX9_of 18 = .ok (.lookupswitch 60 #[(0, 26), (1, 43)], 26) := by decide +kernel
theorem dX9_of_44 : decode cX9_of 44 = .ok (.aload_n 0, 1) := by decide +kernel
theorem dX9_of_45 : decode cX9_of 45 = .ok (.getfield 12, 3) := by decide +kernel
theorem dX9_of_48 : decode cX9_of 48 = .ok (.getfield 83, 3) := by decide +kernel
theorem dX9_of_51 : decode cX9_of 51 = .ok (.getfield 94, 3) := by decide +kernel
theorem dX9_of_54 : decode cX9_of 54 = .ok (.iload_n 1, 1) := by decide +kernel
theorem dX9_of_55 : decode cX9_of 55 = .ok (.iload_n 2, 1) := by decide +kernel
theorem dX9_of_56 : decode cX9_of 56 = .ok (.invokestatic 98, 3) := by decide +kernel
theorem dX9_of_59 : decode cX9_of 59 = .ok (.iaload, 1) := by decide +kernel
theorem dX9_of_60 : decode cX9_of 60 = .ok (.ireturn, 1) := by decide +kernel
theorem dX9_of_61 : decode cX9_of 61 = .ok (.aload_n 0, 1) := by decide +kernel
theorem dX9_of_62 : decode cX9_of 62 = .ok (.getfield 12, 3) := by decide +kernel
theorem dX9_of_65 : decode cX9_of 65 = .ok (.getfield 83, 3) := by decide +kernel
theorem dX9_of_68 : decode cX9_of 68 = .ok (.getfield 109, 3) := by decide +kernel
theorem dX9_of_71 : decode cX9_of 71 = .ok (.iload_n 1, 1) := by decide +kernel
theorem dX9_of_72 : decode cX9_of 72 = .ok (.iload_n 2, 1) := by decide +kernel
theorem dX9_of_73 : decode cX9_of 73 = .ok (.invokestatic 98, 3) := by decide +kernel
theorem dX9_of_76 : decode cX9_of 76 = .ok (.iaload, 1) := by decide +kernel
theorem dX9_of_77 : decode cX9_of 77 = .ok (.ireturn, 1) := by decide +kernel
theorem dX9_of_78 : decode cX9_of 78 = .ok (.iconst (-1), 1) := by decide +kernel
theorem dX9_of_79 : decode cX9_of 79 = .ok (.ireturn, 1) := by decide +kernel
theorem dX9_marginOf_0 : decode cX9_marginOf 0 = .ok (.aload_n 0, 1) := by decide +kernel
theorem dX9_marginOf_1 : decode cX9_marginOf 1 = .ok (.getfield 12, 3) := by decide +kernel
theorem dX9_marginOf_4 : decode cX9_marginOf 4 = .ok (.getfield 83, 3) := by decide +kernel
theorem dX9_marginOf_7 : decode cX9_marginOf 7 = .ok (.iload_n 1, 1) := by decide +kernel
theorem dX9_marginOf_8 : decode cX9_marginOf 8 = .ok (.iload_n 2, 1) := by decide +kernel
theorem dX9_marginOf_9 : decode cX9_marginOf 9 = .ok (.invokevirtual 112, 3) := by decide +kernel
theorem dX9_marginOf_12 : decode cX9_marginOf 12 = .ok (.ifCond .ne 5, 3) := by decide +kernel
theorem dX9_marginOf_15 : decode cX9_marginOf 15 = .ok (.iconst (-1), 1) := by decide +kernel
theorem dX9_marginOf_16 : decode cX9_marginOf 16 = .ok (.ireturn, 1) := by decide +kernel
theorem dX9_marginOf_17 : decode cX9_marginOf 17 = .ok (.aload_n 0, 1) := by decide +kernel
theorem dX9_marginOf_18 : decode cX9_marginOf 18 = .ok (.getfield 12, 3) := by decide +kernel
theorem dX9_marginOf_21 : decode cX9_marginOf 21 = .ok (.getfield 83, 3) := by decide +kernel
theorem dX9_marginOf_24 : decode cX9_marginOf 24 = .ok (.getfield 115, 3) := by decide +kernel
theorem dX9_marginOf_27 : decode cX9_marginOf 27 = .ok (.iload_n 1, 1) := by decide +kernel
theorem dX9_marginOf_28 : decode cX9_marginOf 28 = .ok (.iload_n 2, 1) := by decide +kernel
theorem dX9_marginOf_29 : decode cX9_marginOf 29 = .ok (.invokestatic 98, 3) := by decide +kernel
theorem dX9_marginOf_32 : decode cX9_marginOf 32 = .ok (.iaload, 1) := by decide +kernel
theorem dX9_marginOf_33 : decode cX9_marginOf 33 = .ok (.ireturn, 1) := by decide +kernel
theorem dX9_feed_0 : decode cX9_feed 0 = .ok (.iload_n 1, 1) := by decide +kernel
theorem dX9_feed_1 : decode cX9_feed 1 = .ok (.ifCond .lt 9, 3) := by decide +kernel
theorem dX9_feed_4 : decode cX9_feed 4 = .ok (.iload_n 1, 1) := by decide +kernel
theorem dX9_feed_5 : decode cX9_feed 5 = .ok (.bipush 127, 2) := by decide +kernel
theorem dX9_feed_7 : decode cX9_feed 7 = .ok (.if_icmp .le 6, 3) := by decide +kernel
theorem dX9_feed_10 : decode cX9_feed 10 = .ok (.bipush (-2), 2) := by decide +kernel
theorem dX9_feed_12 : decode cX9_feed 12 = .ok (.ireturn, 1) := by decide +kernel
theorem dX9_feed_13 : decode cX9_feed 13 = .ok (.aload_n 0, 1) := by decide +kernel
theorem dX9_feed_14 : decode cX9_feed 14 = .ok (.getfield 24, 3) := by decide +kernel
theorem dX9_feed_17 : decode cX9_feed 17 = .ok (.iload_n 1, 1) := by decide +kernel
theorem dX9_feed_18 : decode cX9_feed 18 = .ok (.invokevirtual 126, 3) := by decide +kernel
theorem dX9_feed_21 : decode cX9_feed 21 = .ok (.ireturn, 1) := by decide +kernel
theorem dX9_read_0 : decode cX9_read 0 = .ok (.aload_n 0, 1) := by decide +kernel
theorem dX9_read_1 : decode cX9_read 1 = .ok (.getfield 24, 3) := by decide +kernel
theorem dX9_read_4 : decode cX9_read 4 = .ok (.invokevirtual 130, 3) := by decide +kernel
theorem dX9_read_7 : decode cX9_read 7 = .ok (.istore_n 1, 1) := by decide +kernel
theorem dX9_read_8 : decode cX9_read 8 = .ok (.iload_n 1, 1) := by decide +kernel
theorem dX9_read_9 : decode cX9_read 9 = .ok (.ifCond .lt 10, 3) := by decide +kernel
theorem dX9_read_12 : decode cX9_read 12 = .ok (.bipush (-10), 2) := by decide +kernel
theorem dX9_read_14 : decode cX9_read 14 = .ok (.iload_n 1, 1) := by decide +kernel
theorem dX9_read_15 : decode cX9_read 15 = .ok (.isub, 1) := by decide +kernel
theorem dX9_read_16 : decode cX9_read 16 = .ok (.goto 7, 3) := by decide +kernel
theorem dX9_read_19 : decode cX9_read 19 = .ok (.aload_n 0, 1) := by decide +kernel
theorem dX9_read_20 : decode cX9_read 20 = .ok (.invokevirtual 133, 3) := by decide +kernel
theorem dX9_read_23 : decode cX9_read 23 = .ok (.istore_n 2, 1) := by decide +kernel
theorem dX9_read_24 : decode cX9_read 24 = .ok (.aload_n 0, 1) := by decide +kernel
theorem dX9_read_25 : decode cX9_read 25 = .ok (.getfield 24, 3) := by decide +kernel
theorem dX9_read_28 : decode cX9_read 28 = .ok (.iconst 0, 1) := by decide +kernel
theorem dX9_read_29 : decode cX9_read 29 = .ok (.putfield 136, 3) := by decide +kernel
theorem dX9_read_32 : decode cX9_read 32 = .ok (.iload_n 2, 1) := by decide +kernel
theorem dX9_read_33 : decode cX9_read 33 = .ok (.ireturn, 1) := by decide +kernel
theorem dX9_doClauses_0 : decode cX9_doClauses 0 = .ok (.iconst 0, 1) := by decide +kernel
theorem dX9_doClauses_1 : decode cX9_doClauses 1 = .ok (.istore_n 1, 1) := by decide +kernel
theorem dX9_doClauses_2 : decode cX9_doClauses 2 = .ok (.iconst 0, 1) := by decide +kernel
theorem dX9_doClauses_3 : decode cX9_doClauses 3 = .ok (.istore_n 2, 1) := by decide +kernel
theorem dX9_doClauses_4 : decode cX9_doClauses 4 = .ok (.iconst 0, 1) := by decide +kernel
theorem dX9_doClauses_5 : decode cX9_doClauses 5 = .ok (.istore_n 3, 1) := by decide +kernel
theorem dX9_doClauses_6 : decode cX9_doClauses 6 = .ok (.iload_n 3, 1) := by decide +kernel
theorem dX9_doClauses_7 : decode cX9_doClauses 7 = .ok (.bipush 12, 2) := by decide +kernel
theorem dX9_doClauses_9 : decode cX9_doClauses 9 = .ok (.if_icmp .ge 55, 3) := by decide +kernel
theorem dX9_doClauses_12 : decode cX9_doClauses 12 = .ok (.iload_n 2, 1) := by decide +kernel
theorem dX9_doClauses_13 : decode cX9_doClauses 13 = .ok (.aload_n 0, 1) := by decide +kernel
theorem dX9_doClauses_14 : decode cX9_doClauses 14 = .ok (.getfield 24, 3) := by decide +kernel
theorem dX9_doClauses_17 : decode cX9_doClauses 17 = .ok (.getfield 136, 3) := by decide +kernel
theorem dX9_doClauses_20 : decode cX9_doClauses 20 = .ok (.if_icmp .ge 44, 3) := by decide +kernel
theorem dX9_doClauses_23 : decode cX9_doClauses 23 = .ok (.aload_n 0, 1) := by decide +kernel
theorem dX9_doClauses_24 : decode cX9_doClauses 24 = .ok (.getfield 24, 3) := by decide +kernel
theorem dX9_doClauses_27 : decode cX9_doClauses 27 = .ok (.iload_n 2, 1) := by decide +kernel
theorem dX9_doClauses_28 : decode cX9_doClauses 28 = .ok (.invokevirtual 140, 3) := by decide +kernel
theorem dX9_doClauses_31 : decode cX9_doClauses 31 = .ok (.istore 4, 2) := by decide +kernel
theorem dX9_doClauses_33 : decode cX9_doClauses 33 = .ok (.iload 4, 2) := by decide +kernel
theorem dX9_doClauses_35 : decode cX9_doClauses 35 = .ok (.ifCond .ge 5, 3) := by decide +kernel
theorem dX9_doClauses_38 : decode cX9_doClauses 38 = .ok (.iload_n 1, 1) := by decide +kernel
theorem dX9_doClauses_39 : decode cX9_doClauses 39 = .ok (.ireturn, 1) := by decide +kernel
theorem dX9_doClauses_40 : decode cX9_doClauses 40 = .ok (.aload_n 0, 1) := by decide +kernel
theorem dX9_doClauses_41 : decode cX9_doClauses 41 = .ok (.iload_n 2, 1) := by decide +kernel
theorem dX9_doClauses_42 : decode cX9_doClauses 42 = .ok (.iload 4, 2) := by decide +kernel
theorem dX9_doClauses_44 : decode cX9_doClauses 44 = .ok (.invokevirtual 143, 3) := by decide +kernel
theorem dX9_doClauses_47 : decode cX9_doClauses 47 = .ok (.ifCond .eq 6, 3) := by decide +kernel
theorem dX9_doClauses_50 : decode cX9_doClauses 50 = .ok (.iinc 1 1, 3) := by decide +kernel
theorem dX9_doClauses_53 : decode cX9_doClauses 53 = .ok (.iload 4, 2) := by decide +kernel
theorem dX9_doClauses_55 : decode cX9_doClauses 55 = .ok (.iconst 1, 1) := by decide +kernel
theorem dX9_doClauses_56 : decode cX9_doClauses 56 = .ok (.iadd, 1) := by decide +kernel
theorem dX9_doClauses_57 : decode cX9_doClauses 57 = .ok (.istore_n 2, 1) := by decide +kernel
theorem dX9_doClauses_58 : decode cX9_doClauses 58 = .ok (.iinc 3 1, 3) := by decide +kernel
theorem dX9_doClauses_61 : decode cX9_doClauses 61 = .ok (.goto (-55), 3) := by decide +kernel
theorem dX9_doClauses_64 : decode cX9_doClauses 64 = .ok (.iload_n 1, 1) := by decide +kernel
theorem dX9_doClauses_65 : decode cX9_doClauses 65 = .ok (.ireturn, 1) := by decide +kernel
theorem dX9_isClauseDone_0 : decode cX9_isClauseDone 0 = .ok (.aload_n 0, 1) := by decide +kernel
theorem dX9_isClauseDone_1 : decode cX9_isClauseDone 1 = .ok (.getfield 24, 3) := by decide +kernel
theorem dX9_isClauseDone_4 : decode cX9_isClauseDone 4 = .ok (.iload_n 1, 1) := by decide +kernel
theorem dX9_isClauseDone_5 : decode cX9_isClauseDone 5 = .ok (.iconst 1, 1) := by decide +kernel
theorem dX9_isClauseDone_6 : decode cX9_isClauseDone 6 = .ok (.iadd, 1) := by decide +kernel
theorem dX9_isClauseDone_7 : decode cX9_isClauseDone 7 = .ok (.invokevirtual 146, 3) := by decide +kernel
theorem dX9_isClauseDone_10 : decode cX9_isClauseDone 10 = .ok (.istore_n 3, 1) := by decide +kernel
theorem dX9_isClauseDone_11 : decode cX9_isClauseDone 11 = .ok (.aload_n 0, 1) := by decide +kernel
theorem dX9_isClauseDone_12 : decode cX9_isClauseDone 12 = .ok (.getfield 24, 3) := by decide +kernel
theorem dX9_isClauseDone_15 : decode cX9_isClauseDone 15 = .ok (.iload_n 1, 1) := by decide +kernel
theorem dX9_isClauseDone_16 : decode cX9_isClauseDone 16 = .ok (.iconst 2, 1) := by decide +kernel
theorem dX9_isClauseDone_17 : decode cX9_isClauseDone 17 = .ok (.iadd, 1) := by decide +kernel
theorem dX9_isClauseDone_18 : decode cX9_isClauseDone 18 = .ok (.invokevirtual 146, 3) := by decide +kernel
theorem dX9_isClauseDone_21 : decode cX9_isClauseDone 21 = .ok (.istore 4, 2) := by decide +kernel
theorem dX9_isClauseDone_23 : decode cX9_isClauseDone 23 = .ok (.aload_n 0, 1) := by decide +kernel
theorem dX9_isClauseDone_24 : decode cX9_isClauseDone 24 = .ok (.getfield 24, 3) := by decide +kernel
theorem dX9_isClauseDone_27 : decode cX9_isClauseDone 27 = .ok (.iload_n 1, 1) := by decide +kernel
theorem dX9_isClauseDone_28 : decode cX9_isClauseDone 28 = .ok (.iconst 3, 1) := by decide +kernel
theorem dX9_isClauseDone_29 : decode cX9_isClauseDone 29 = .ok (.iadd, 1) := by decide +kernel
theorem dX9_isClauseDone_30 : decode cX9_isClauseDone 30 = .ok (.iload_n 2, 1) := by decide +kernel
theorem dX9_isClauseDone_31 : decode cX9_isClauseDone 31 = .ok (.invokevirtual 149, 3) := by decide +kernel
theorem dX9_isClauseDone_34 : decode cX9_isClauseDone 34 = .ok (.istore 5, 2) := by decide +kernel
theorem dX9_isClauseDone_36 : decode cX9_isClauseDone 36 = .ok (.aload_n 0, 1) := by decide +kernel
theorem dX9_isClauseDone_37 : decode cX9_isClauseDone 37 = .ok (.getfield 24, 3) := by decide +kernel
theorem dX9_isClauseDone_40 : decode cX9_isClauseDone 40 = .ok (.iload_n 1, 1) := by decide +kernel
theorem dX9_isClauseDone_41 : decode cX9_isClauseDone 41 = .ok (.invokevirtual 152, 3) := by decide +kernel
theorem dX9_isClauseDone_44 : decode cX9_isClauseDone 44 = .ok (.tableswitch 173 107 120 #[106, 173, 124, 88, 173, 173, 173, 173, 72, 173, 173, 173, 173, 142], 72) := by decide +kernel
theorem dX9_isClauseDone_116 : decode cX9_isClauseDone 116 = .ok (.aload_n 0, 1) := by decide +kernel
theorem dX9_isClauseDone_117 : decode cX9_isClauseDone 117 = .ok (.iload_n 3, 1) := by decide +kernel
theorem dX9_isClauseDone_118 : decode cX9_isClauseDone 118 = .ok (.iload 4, 2) := by decide +kernel
theorem dX9_isClauseDone_120 : decode cX9_isClauseDone 120 = .ok (.invokevirtual 155, 3) := by decide +kernel
theorem dX9_isClauseDone_123 : decode cX9_isClauseDone 123 = .ok (.ifCond .lt 7, 3) := by decide +kernel
theorem dX9_isClauseDone_126 : decode cX9_isClauseDone 126 = .ok (.iconst 1, 1) := by decide +kernel
theorem dX9_isClauseDone_127 : decode cX9_isClauseDone 127 = .ok (.goto 4, 3) := by decide +kernel
theorem dX9_isClauseDone_130 : decode cX9_isClauseDone 130 = .ok (.iconst 0, 1) := by decide +kernel
theorem dX9_isClauseDone_131 : decode cX9_isClauseDone 131 = .ok (.ireturn, 1) := by decide +kernel
theorem dX9_isClauseDone_132 : decode cX9_isClauseDone 132 = .ok (.aload_n 0, 1) := by decide +kernel
theorem dX9_isClauseDone_133 : decode cX9_isClauseDone 133 = .ok (.iload_n 3, 1) := by decide +kernel
theorem dX9_isClauseDone_134 : decode cX9_isClauseDone 134 = .ok (.iload 4, 2) := by decide +kernel
theorem dX9_isClauseDone_136 : decode cX9_isClauseDone 136 = .ok (.iload 5, 2) := by decide +kernel
theorem dX9_isClauseDone_138 : decode cX9_isClauseDone 138 = .ok (.invokevirtual 158, 3) := by decide +kernel
theorem dX9_isClauseDone_141 : decode cX9_isClauseDone 141 = .ok (.ifCond .lt 7, 3) := by decide +kernel
theorem dX9_isClauseDone_144 : decode cX9_isClauseDone 144 = .ok (.iconst 1, 1) := by decide +kernel
theorem dX9_isClauseDone_145 : decode cX9_isClauseDone 145 = .ok (.goto 4, 3) := by decide +kernel
theorem dX9_isClauseDone_148 : decode cX9_isClauseDone 148 = .ok (.iconst 0, 1) := by decide +kernel
theorem dX9_isClauseDone_149 : decode cX9_isClauseDone 149 = .ok (.ireturn, 1) := by decide +kernel
theorem dX9_isClauseDone_150 : decode cX9_isClauseDone 150 = .ok (.aload_n 0, 1) := by decide +kernel
theorem dX9_isClauseDone_151 : decode cX9_isClauseDone 151 = .ok (.iload_n 3, 1) := by decide +kernel
theorem dX9_isClauseDone_152 : decode cX9_isClauseDone 152 = .ok (.iload 4, 2) := by decide +kernel
theorem dX9_isClauseDone_154 : decode cX9_isClauseDone 154 = .ok (.iload 5, 2) := by decide +kernel
theorem dX9_isClauseDone_156 : decode cX9_isClauseDone 156 = .ok (.invokevirtual 162, 3) := by decide +kernel
theorem dX9_isClauseDone_159 : decode cX9_isClauseDone 159 = .ok (.ifCond .lt 7, 3) := by decide +kernel
theorem dX9_isClauseDone_162 : decode cX9_isClauseDone 162 = .ok (.iconst 1, 1) := by decide +kernel
theorem dX9_isClauseDone_163 : decode cX9_isClauseDone 163 = .ok (.goto 4, 3) := by decide +kernel
theorem dX9_isClauseDone_166 : decode cX9_isClauseDone 166 = .ok (.iconst 0, 1) := by decide +kernel
theorem dX9_isClauseDone_167 : decode cX9_isClauseDone 167 = .ok (.ireturn, 1) := by decide +kernel
theorem dX9_isClauseDone_168 : decode cX9_isClauseDone 168 = .ok (.aload_n 0, 1) := by decide +kernel
theorem dX9_isClauseDone_169 : decode cX9_isClauseDone 169 = .ok (.iload_n 3, 1) := by decide +kernel
theorem dX9_isClauseDone_170 : decode cX9_isClauseDone 170 = .ok (.iload 4, 2) := by decide +kernel
theorem dX9_isClauseDone_172 : decode cX9_isClauseDone 172 = .ok (.iload 5, 2) := by decide +kernel
theorem dX9_isClauseDone_174 : decode cX9_isClauseDone 174 = .ok (.invokevirtual 165, 3) := by decide +kernel
theorem dX9_isClauseDone_177 : decode cX9_isClauseDone 177 = .ok (.ifCond .lt 7, 3) := by decide +kernel
theorem dX9_isClauseDone_180 : decode cX9_isClauseDone 180 = .ok (.iconst 1, 1) := by decide +kernel
theorem dX9_isClauseDone_181 : decode cX9_isClauseDone 181 = .ok (.goto 4, 3) := by decide +kernel
theorem dX9_isClauseDone_184 : decode cX9_isClauseDone 184 = .ok (.iconst 0, 1) := by decide +kernel
theorem dX9_isClauseDone_185 : decode cX9_isClauseDone 185 = .ok (.ireturn, 1) := by decide +kernel
theorem dX9_isClauseDone_186 : decode cX9_isClauseDone 186 = .ok (.aload_n 0, 1) := by decide +kernel
theorem dX9_isClauseDone_187 : decode cX9_isClauseDone 187 = .ok (.aload_n 0, 1) := by decide +kernel
theorem dX9_isClauseDone_188 : decode cX9_isClauseDone 188 = .ok (.getfield 12, 3) := by decide +kernel
theorem dX9_isClauseDone_191 : decode cX9_isClauseDone 191 = .ok (.getfield 83, 3) := by decide +kernel
theorem dX9_isClauseDone_194 : decode cX9_isClauseDone 194 = .ok (.getfield 118, 3) := by decide +kernel
theorem dX9_isClauseDone_197 : decode cX9_isClauseDone 197 = .ok (.ifCond .ne 7, 3) := by decide +kernel
theorem dX9_isClauseDone_200 : decode cX9_isClauseDone 200 = .ok (.iconst 1, 1) := by decide +kernel
theorem dX9_isClauseDone_201 : decode cX9_isClauseDone 201 = .ok (.goto 4, 3) := by decide +kernel
theorem dX9_isClauseDone_204 : decode cX9_isClauseDone 204 = .ok (.iconst 0, 1) := by decide +kernel
theorem dX9_isClauseDone_205 : decode cX9_isClauseDone 205 = .ok (.invokevirtual 168, 3) := by decide +kernel
theorem dX9_isClauseDone_208 : decode cX9_isClauseDone 208 = .ok (.ifCond .lt 7, 3) := by decide +kernel
theorem dX9_isClauseDone_211 : decode cX9_isClauseDone 211 = .ok (.iconst 1, 1) := by decide +kernel
theorem dX9_isClauseDone_212 : decode cX9_isClauseDone 212 = .ok (.goto 4, 3) := by decide +kernel
theorem dX9_isClauseDone_215 : decode cX9_isClauseDone 215 = .ok (.iconst 0, 1) := by decide +kernel
theorem dX9_isClauseDone_216 : decode cX9_isClauseDone 216 = .ok (.ireturn, 1) := by decide +kernel
theorem dX9_isClauseDone_217 : decode cX9_isClauseDone 217 = .ok (.iconst 0, 1) := by decide +kernel
theorem dX9_isClauseDone_218 : decode cX9_isClauseDone 218 = .ok (.ireturn, 1) := by decide +kernel
theorem dX9_begin_0 : decode cX9_begin 0 = .ok (.aload_n 0, 1) := by decide +kernel
theorem dX9_begin_1 : decode cX9_begin 1 = .ok (.getfield 12, 3) := by decide +kernel
theorem dX9_begin_4 : decode cX9_begin 4 = .ok (.getfield 102, 3) := by decide +kernel
theorem dX9_begin_7 : decode cX9_begin 7 = .ok (.getfield 171, 3) := by decide +kernel
theorem dX9_begin_10 : decode cX9_begin 10 = .ok (.istore_n 1, 1) := by decide +kernel
theorem dX9_begin_11 : decode cX9_begin 11 = .ok (.aload_n 0, 1) := by decide +kernel
theorem dX9_begin_12 : decode cX9_begin 12 = .ok (.getfield 12, 3) := by decide +kernel
theorem dX9_begin_15 : decode cX9_begin 15 = .ok (.getfield 102, 3) := by decide +kernel
theorem dX9_begin_18 : decode cX9_begin 18 = .ok (.aload_n 0, 1) := by decide +kernel
theorem dX9_begin_19 : decode cX9_begin 19 = .ok (.getfield 12, 3) := by decide +kernel
theorem dX9_begin_22 : decode cX9_begin 22 = .ok (.getfield 83, 3) := by decide +kernel
theorem dX9_begin_25 : decode cX9_begin 25 = .ok (.invokevirtual 105, 3) := by decide +kernel
theorem dX9_begin_28 : decode cX9_begin 28 = .ok (.iload_n 1, 1) := by decide +kernel
theorem dX9_begin_29 : decode cX9_begin 29 = .ok (.ireturn, 1) := by decide +kernel
theorem dX9_fit_0 : decode cX9_fit 0 = .ok (.iload_n 1, 1) := by decide +kernel
theorem dX9_fit_1 : decode cX9_fit 1 = .ok (.ifCond .lt 8, 3) := by decide +kernel
theorem dX9_fit_4 : decode cX9_fit 4 = .ok (.iload_n 1, 1) := by decide +kernel
theorem dX9_fit_5 : decode cX9_fit 5 = .ok (.iconst 3, 1) := by decide +kernel
theorem dX9_fit_6 : decode cX9_fit 6 = .ok (.if_icmp .lt 5, 3) := by decide +kernel
theorem dX9_fit_9 : decode cX9_fit 9 = .ok (.iconst (-1), 1) := by decide +kernel
theorem dX9_fit_10 : decode cX9_fit 10 = .ok (.ireturn, 1) := by decide +kernel
theorem dX9_fit_11 : decode cX9_fit 11 = .ok (.iload_n 1, 1) := by decide +kernel
theorem dX9_fit_12 : decode cX9_fit 12 = .ok (.iconst 2, 1) := by decide +kernel
theorem dX9_fit_13 : decode cX9_fit 13 = .ok (.if_icmp .ne 19, 3) := by decide +kernel
theorem dX9_fit_16 : decode cX9_fit 16 = .ok (.aload_n 0, 1) := by decide +kernel
theorem dX9_fit_17 : decode cX9_fit 17 = .ok (.getfield 12, 3) := by decide +kernel
theorem dX9_fit_20 : decode cX9_fit 20 = .ok (.getfield 83, 3) := by decide +kernel
theorem dX9_fit_23 : decode cX9_fit 23 = .ok (.getfield 118, 3) := by decide +kernel
theorem dX9_fit_26 : decode cX9_fit 26 = .ok (.ifCond .ne 6, 3) := by decide +kernel
theorem dX9_fit_29 : decode cX9_fit 29 = .ok (.bipush (-3), 2) := by decide +kernel
theorem dX9_fit_31 : decode cX9_fit 31 = .ok (.ireturn, 1) := by decide +kernel
theorem dX9_fit_32 : decode cX9_fit 32 = .ok (.aload_n 0, 1) := by decide +kernel
theorem dX9_fit_33 : decode cX9_fit 33 = .ok (.getfield 56, 3) := by decide +kernel
theorem dX9_fit_36 : decode cX9_fit 36 = .ok (.aload_n 0, 1) := by decide +kernel
theorem dX9_fit_37 : decode cX9_fit 37 = .ok (.getfield 12, 3) := by decide +kernel
theorem dX9_fit_40 : decode cX9_fit 40 = .ok (.getfield 102, 3) := by decide +kernel
theorem dX9_fit_43 : decode cX9_fit 43 = .ok (.invokevirtual 174, 3) := by decide +kernel
theorem dX9_fit_46 : decode cX9_fit 46 = .ok (.aload_n 0, 1) := by decide +kernel
theorem dX9_fit_47 : decode cX9_fit 47 = .ok (.getfield 56, 3) := by decide +kernel
theorem dX9_fit_50 : decode cX9_fit 50 = .ok (.aload_n 0, 1) := by decide +kernel
theorem dX9_fit_51 : decode cX9_fit 51 = .ok (.getfield 12, 3) := by decide +kernel
theorem dX9_fit_54 : decode cX9_fit 54 = .ok (.getfield 83, 3) := by decide +kernel
theorem dX9_fit_57 : decode cX9_fit 57 = .ok (.iload_n 1, 1) := by decide +kernel
theorem dX9_fit_58 : decode cX9_fit 58 = .ok (.invokevirtual 178, 3) := by decide +kernel
theorem dX9_fit_61 : decode cX9_fit 61 = .ok (.ifCond .ne 6, 3) := by decide +kernel
theorem dX9_fit_64 : decode cX9_fit 64 = .ok (.bipush (-6), 2) := by decide +kernel
theorem dX9_fit_66 : decode cX9_fit 66 = .ok (.ireturn, 1) := by decide +kernel
theorem dX9_fit_67 : decode cX9_fit 67 = .ok (.aload_n 0, 1) := by decide +kernel
theorem dX9_fit_68 : decode cX9_fit 68 = .ok (.getfield 56, 3) := by decide +kernel
theorem dX9_fit_71 : decode cX9_fit 71 = .ok (.aload_n 0, 1) := by decide +kernel
theorem dX9_fit_72 : decode cX9_fit 72 = .ok (.getfield 12, 3) := by decide +kernel
theorem dX9_fit_75 : decode cX9_fit 75 = .ok (.getfield 83, 3) := by decide +kernel
theorem dX9_fit_78 : decode cX9_fit 78 = .ok (.aload_n 0, 1) := by decide +kernel
theorem dX9_fit_79 : decode cX9_fit 79 = .ok (.getfield 12, 3) := by decide +kernel
theorem dX9_fit_82 : decode cX9_fit 82 = .ok (.getfield 102, 3) := by decide +kernel
theorem dX9_fit_85 : decode cX9_fit 85 = .ok (.invokevirtual 182, 3) := by decide +kernel
theorem dX9_fit_88 : decode cX9_fit 88 = .ok (.istore_n 2, 1) := by decide +kernel
theorem dX9_fit_89 : decode cX9_fit 89 = .ok (.aload_n 0, 1) := by decide +kernel
theorem dX9_fit_90 : decode cX9_fit 90 = .ok (.getfield 12, 3) := by decide +kernel
theorem dX9_fit_93 : decode cX9_fit 93 = .ok (.getfield 102, 3) := by decide +kernel
theorem dX9_fit_96 : decode cX9_fit 96 = .ok (.aload_n 0, 1) := by decide +kernel
theorem dX9_fit_97 : decode cX9_fit 97 = .ok (.getfield 56, 3) := by decide +kernel
theorem dX9_fit_100 : decode cX9_fit 100 = .ok (.invokevirtual 174, 3) := by decide +kernel
theorem dX9_fit_103 : decode cX9_fit 103 = .ok (.iload_n 2, 1) := by decide +kernel
theorem dX9_fit_104 : decode cX9_fit 104 = .ok (.ireturn, 1) := by decide +kernel
theorem dX9_rounds_0 : decode cX9_rounds 0 = .ok (.iload_n 1, 1) := by decide +kernel
theorem dX9_rounds_1 : decode cX9_rounds 1 = .ok (.ifCond .lt 9, 3) := by decide +kernel
theorem dX9_rounds_4 : decode cX9_rounds 4 = .ok (.iload_n 1, 1) := by decide +kernel
theorem dX9_rounds_5 : decode cX9_rounds 5 = .ok (.bipush 20, 2) := by decide +kernel
theorem dX9_rounds_7 : decode cX9_rounds 7 = .ok (.if_icmp .le 6, 3) := by decide +kernel
theorem dX9_rounds_10 : decode cX9_rounds 10 = .ok (.bipush (-2), 2) := by decide +kernel
theorem dX9_rounds_12 : decode cX9_rounds 12 = .ok (.ireturn, 1) := by decide +kernel
theorem dX9_rounds_13 : decode cX9_rounds 13 = .ok (.iconst 0, 1) := by decide +kernel
theorem dX9_rounds_14 : decode cX9_rounds 14 = .ok (.istore_n 2, 1) := by decide +kernel
theorem dX9_rounds_15 : decode cX9_rounds 15 = .ok (.iload_n 2, 1) := by decide +kernel
theorem dX9_rounds_16 : decode cX9_rounds 16 = .ok (.iload_n 1, 1) := by decide +kernel
theorem dX9_rounds_17 : decode cX9_rounds 17 = .ok (.if_icmp .ge 30, 3) := by decide +kernel
theorem dX9_rounds_20 : decode cX9_rounds 20 = .ok (.aload_n 0, 1) := by decide +kernel
theorem dX9_rounds_21 : decode cX9_rounds 21 = .ok (.aload_n 0, 1) := by decide +kernel
theorem dX9_rounds_22 : decode cX9_rounds 22 = .ok (.getfield 12, 3) := by decide +kernel
theorem dX9_rounds_25 : decode cX9_rounds 25 = .ok (.getfield 83, 3) := by decide +kernel
theorem dX9_rounds_28 : decode cX9_rounds 28 = .ok (.aload_n 0, 1) := by decide +kernel
theorem dX9_rounds_29 : decode cX9_rounds 29 = .ok (.getfield 12, 3) := by decide +kernel
theorem dX9_rounds_32 : decode cX9_rounds 32 = .ok (.getfield 102, 3) := by decide +kernel
theorem dX9_rounds_35 : decode cX9_rounds 35 = .ok (.invokevirtual 186, 3) := by decide +kernel
theorem dX9_rounds_38 : decode cX9_rounds 38 = .ok (.ifCond .eq 9, 3) := by decide +kernel
theorem dX9_rounds_41 : decode cX9_rounds 41 = .ok (.iinc 2 1, 3) := by decide +kernel
theorem dX9_rounds_44 : decode cX9_rounds 44 = .ok (.goto (-29), 3) := by decide +kernel
theorem dX9_rounds_47 : decode cX9_rounds 47 = .ok (.iload_n 2, 1) := by decide +kernel
theorem dX9_rounds_48 : decode cX9_rounds 48 = .ok (.ireturn, 1) := by decide +kernel
theorem dX9_isRoundDone_0 : decode cX9_isRoundDone 0 = .ok (.aload_n 0, 1) := by decide +kernel
theorem dX9_isRoundDone_1 : decode cX9_isRoundDone 1 = .ok (.getfield 56, 3) := by decide +kernel
theorem dX9_isRoundDone_4 : decode cX9_isRoundDone 4 = .ok (.aload_n 2, 1) := by decide +kernel
theorem dX9_isRoundDone_5 : decode cX9_isRoundDone 5 = .ok (.invokevirtual 174, 3) := by decide +kernel
theorem dX9_isRoundDone_8 : decode cX9_isRoundDone 8 = .ok (.aload_n 0, 1) := by decide +kernel
theorem dX9_isRoundDone_9 : decode cX9_isRoundDone 9 = .ok (.getfield 56, 3) := by decide +kernel
theorem dX9_isRoundDone_12 : decode cX9_isRoundDone 12 = .ok (.aload_n 1, 1) := by decide +kernel
theorem dX9_isRoundDone_13 : decode cX9_isRoundDone 13 = .ok (.iconst 0, 1) := by decide +kernel
theorem dX9_isRoundDone_14 : decode cX9_isRoundDone 14 = .ok (.invokevirtual 178, 3) := by decide +kernel
theorem dX9_isRoundDone_17 : decode cX9_isRoundDone 17 = .ok (.ifCond .eq 15, 3) := by decide +kernel
theorem dX9_isRoundDone_20 : decode cX9_isRoundDone 20 = .ok (.aload_n 0, 1) := by decide +kernel
theorem dX9_isRoundDone_21 : decode cX9_isRoundDone 21 = .ok (.getfield 56, 3) := by decide +kernel
theorem dX9_isRoundDone_24 : decode cX9_isRoundDone 24 = .ok (.aload_n 1, 1) := by decide +kernel
theorem dX9_isRoundDone_25 : decode cX9_isRoundDone 25 = .ok (.iconst 1, 1) := by decide +kernel
theorem dX9_isRoundDone_26 : decode cX9_isRoundDone 26 = .ok (.invokevirtual 178, 3) := by decide +kernel
theorem dX9_isRoundDone_29 : decode cX9_isRoundDone 29 = .ok (.ifCond .ne 5, 3) := by decide +kernel
theorem dX9_isRoundDone_32 : decode cX9_isRoundDone 32 = .ok (.iconst 0, 1) := by decide +kernel
theorem dX9_isRoundDone_33 : decode cX9_isRoundDone 33 = .ok (.ireturn, 1) := by decide +kernel
theorem dX9_isRoundDone_34 : decode cX9_isRoundDone 34 = .ok (.aload_n 1, 1) := by decide +kernel
theorem dX9_isRoundDone_35 : decode cX9_isRoundDone 35 = .ok (.getfield 118, 3) := by decide +kernel
theorem dX9_isRoundDone_38 : decode cX9_isRoundDone 38 = .ok (.ifCond .eq 17, 3) := by decide +kernel
theorem dX9_isRoundDone_41 : decode cX9_isRoundDone 41 = .ok (.aload_n 0, 1) := by decide +kernel
theorem dX9_isRoundDone_42 : decode cX9_isRoundDone 42 = .ok (.getfield 56, 3) := by decide +kernel
theorem dX9_isRoundDone_45 : decode cX9_isRoundDone 45 = .ok (.aload_n 1, 1) := by decide +kernel
theorem dX9_isRoundDone_46 : decode cX9_isRoundDone 46 = .ok (.iconst 2, 1) := by decide +kernel
theorem dX9_isRoundDone_47 : decode cX9_isRoundDone 47 = .ok (.invokevirtual 178, 3) := by decide +kernel
theorem dX9_isRoundDone_50 : decode cX9_isRoundDone 50 = .ok (.ifCond .ne 5, 3) := by decide +kernel
theorem dX9_isRoundDone_53 : decode cX9_isRoundDone 53 = .ok (.iconst 0, 1) := by decide +kernel
theorem dX9_isRoundDone_54 : decode cX9_isRoundDone 54 = .ok (.ireturn, 1) := by decide +kernel
theorem dX9_isRoundDone_55 : decode cX9_isRoundDone 55 = .ok (.aload_n 0, 1) := by decide +kernel
theorem dX9_isRoundDone_56 : decode cX9_isRoundDone 56 = .ok (.getfield 56, 3) := by decide +kernel
theorem dX9_isRoundDone_59 : decode cX9_isRoundDone 59 = .ok (.aload_n 1, 1) := by decide +kernel
theorem dX9_isRoundDone_60 : decode cX9_isRoundDone 60 = .ok (.aload_n 2, 1) := by decide +kernel
theorem dX9_isRoundDone_61 : decode cX9_isRoundDone 61 = .ok (.invokevirtual 182, 3) := by decide +kernel
theorem dX9_isRoundDone_64 : decode cX9_isRoundDone 64 = .ok (.ifCond .ne 5, 3) := by decide +kernel
theorem dX9_isRoundDone_67 : decode cX9_isRoundDone 67 = .ok (.iconst 0, 1) := by decide +kernel
theorem dX9_isRoundDone_68 : decode cX9_isRoundDone 68 = .ok (.ireturn, 1) := by decide +kernel
theorem dX9_isRoundDone_69 : decode cX9_isRoundDone 69 = .ok (.aload_n 2, 1) := by decide +kernel
theorem dX9_isRoundDone_70 : decode cX9_isRoundDone 70 = .ok (.aload_n 0, 1) := by decide +kernel
theorem dX9_isRoundDone_71 : decode cX9_isRoundDone 71 = .ok (.getfield 56, 3) := by decide +kernel
theorem dX9_isRoundDone_74 : decode cX9_isRoundDone 74 = .ok (.invokevirtual 174, 3) := by decide +kernel
theorem dX9_isRoundDone_77 : decode cX9_isRoundDone 77 = .ok (.aload_n 2, 1) := by decide +kernel
theorem dX9_isRoundDone_78 : decode cX9_isRoundDone 78 = .ok (.dup, 1) := by decide +kernel
theorem dX9_isRoundDone_79 : decode cX9_isRoundDone 79 = .ok (.getfield 171, 3) := by decide +kernel
theorem dX9_isRoundDone_82 : decode cX9_isRoundDone 82 = .ok (.iconst 1, 1) := by decide +kernel
theorem dX9_isRoundDone_83 : decode cX9_isRoundDone 83 = .ok (.iadd, 1) := by decide +kernel
theorem dX9_isRoundDone_84 : decode cX9_isRoundDone 84 = .ok (.putfield 171, 3) := by decide +kernel
theorem dX9_isRoundDone_87 : decode cX9_isRoundDone 87 = .ok (.iconst 1, 1) := by decide +kernel
theorem dX9_isRoundDone_88 : decode cX9_isRoundDone 88 = .ok (.ireturn, 1) := by decide +kernel
theorem dX9_cell_0 : decode cX9_cell 0 = .ok (.aload_n 0, 1) := by decide +kernel
theorem dX9_cell_1 : decode cX9_cell 1 = .ok (.getfield 12, 3) := by decide +kernel
theorem dX9_cell_4 : decode cX9_cell 4 = .ok (.getfield 83, 3) := by decide +kernel
theorem dX9_cell_7 : decode cX9_cell 7 = .ok (.iload_n 1, 1) := by decide +kernel
theorem dX9_cell_8 : decode cX9_cell 8 = .ok (.iload_n 2, 1) := by decide +kernel
theorem dX9_cell_9 : decode cX9_cell 9 = .ok (.invokevirtual 90, 3) := by decide +kernel
theorem dX9_cell_12 : decode cX9_cell 12 = .ok (.ifCond .ne 7, 3) := by decide +kernel
theorem dX9_cell_15 : decode cX9_cell 15 = .ok (.ldc2_w 190, 3) := by decide +kernel
theorem dX9_cell_18 : decode cX9_cell 18 = .ok (.lreturn, 1) := by decide +kernel
theorem dX9_cell_19 : decode cX9_cell 19 = .ok (.iload_n 3, 1) := by decide +kernel
theorem dX9_cell_20 : decode cX9_cell 20 = .ok (.lookupswitch 62 #[(0, 28), (1, 45)], 28) := by decide +kernel
theorem dX9_cell_48 : decode cX9_cell 48 = .ok (.aload_n 0, 1) := by decide +kernel
theorem dX9_cell_49 : decode cX9_cell 49 = .ok (.getfield 12, 3) := by decide +kernel
theorem dX9_cell_52 : decode cX9_cell 52 = .ok (.getfield 102, 3) := by decide +kernel
theorem dX9_cell_55 : decode cX9_cell 55 = .ok (.getfield 192, 3) := by decide +kernel
theorem dX9_cell_58 : decode cX9_cell 58 = .ok (.iload_n 1, 1) := by decide +kernel
theorem dX9_cell_59 : decode cX9_cell 59 = .ok (.iload_n 2, 1) := by decide +kernel
theorem dX9_cell_60 : decode cX9_cell 60 = .ok (.invokestatic 98, 3) := by decide +kernel
theorem dX9_cell_63 : decode cX9_cell 63 = .ok (.laload, 1) := by decide +kernel
theorem dX9_cell_64 : decode cX9_cell 64 = .ok (.lreturn, 1) := by decide +kernel
theorem dX9_cell_65 : decode cX9_cell 65 = .ok (.aload_n 0, 1) := by decide +kernel
theorem dX9_cell_66 : decode cX9_cell 66 = .ok (.getfield 12, 3) := by decide +kernel
theorem dX9_cell_69 : decode cX9_cell 69 = .ok (.getfield 102, 3) := by decide +kernel
theorem dX9_cell_72 : decode cX9_cell 72 = .ok (.getfield 196, 3) := by decide +kernel
theorem dX9_cell_75 : decode cX9_cell 75 = .ok (.iload_n 1, 1) := by decide +kernel
theorem dX9_cell_76 : decode cX9_cell 76 = .ok (.iload_n 2, 1) := by decide +kernel
theorem dX9_cell_77 : decode cX9_cell 77 = .ok (.invokestatic 98, 3) := by decide +kernel
theorem dX9_cell_80 : decode cX9_cell 80 = .ok (.laload, 1) := by decide +kernel
theorem dX9_cell_81 : decode cX9_cell 81 = .ok (.lreturn, 1) := by decide +kernel
theorem dX9_cell_82 : decode cX9_cell 82 = .ok (.ldc2_w 190, 3) := by decide +kernel
theorem dX9_cell_85 : decode cX9_cell 85 = .ok (.lreturn, 1) := by decide +kernel
theorem dX9_sum_0 : decode cX9_sum 0 = .ok (.aload_n 0, 1) := by decide +kernel
theorem dX9_sum_1 : decode cX9_sum 1 = .ok (.getfield 12, 3) := by decide +kernel
theorem dX9_sum_4 : decode cX9_sum 4 = .ok (.getfield 83, 3) := by decide +kernel
theorem dX9_sum_7 : decode cX9_sum 7 = .ok (.iload_n 1, 1) := by decide +kernel
theorem dX9_sum_8 : decode cX9_sum 8 = .ok (.iload_n 2, 1) := by decide +kernel
theorem dX9_sum_9 : decode cX9_sum 9 = .ok (.invokevirtual 112, 3) := by decide +kernel
theorem dX9_sum_12 : decode cX9_sum 12 = .ok (.ifCond .ne 7, 3) := by decide +kernel
theorem dX9_sum_15 : decode cX9_sum 15 = .ok (.ldc2_w 190, 3) := by decide +kernel
theorem dX9_sum_18 : decode cX9_sum 18 = .ok (.lreturn, 1) := by decide +kernel
theorem dX9_sum_19 : decode cX9_sum 19 = .ok (.aload_n 0, 1) := by decide +kernel
theorem dX9_sum_20 : decode cX9_sum 20 = .ok (.getfield 12, 3) := by decide +kernel
theorem dX9_sum_23 : decode cX9_sum 23 = .ok (.getfield 102, 3) := by decide +kernel
theorem dX9_sum_26 : decode cX9_sum 26 = .ok (.aload_n 0, 1) := by decide +kernel
theorem dX9_sum_27 : decode cX9_sum 27 = .ok (.getfield 12, 3) := by decide +kernel
theorem dX9_sum_30 : decode cX9_sum 30 = .ok (.getfield 83, 3) := by decide +kernel
theorem dX9_sum_33 : decode cX9_sum 33 = .ok (.iload_n 1, 1) := by decide +kernel
theorem dX9_sum_34 : decode cX9_sum 34 = .ok (.iload_n 2, 1) := by decide +kernel
theorem dX9_sum_35 : decode cX9_sum 35 = .ok (.aload_n 0, 1) := by decide +kernel
theorem dX9_sum_36 : decode cX9_sum 36 = .ok (.getfield 62, 3) := by decide +kernel
theorem dX9_sum_39 : decode cX9_sum 39 = .ok (.invokevirtual 199, 3) := by decide +kernel
theorem dX9_sum_42 : decode cX9_sum 42 = .ok (.ifCond .ne 7, 3) := by decide +kernel
theorem dX9_sum_45 : decode cX9_sum 45 = .ok (.ldc2_w 190, 3) := by decide +kernel
theorem dX9_sum_48 : decode cX9_sum 48 = .ok (.lreturn, 1) := by decide +kernel
theorem dX9_sum_49 : decode cX9_sum 49 = .ok (.aload_n 0, 1) := by decide +kernel
theorem dX9_sum_50 : decode cX9_sum 50 = .ok (.getfield 62, 3) := by decide +kernel
theorem dX9_sum_53 : decode cX9_sum 53 = .ok (.iload_n 3, 1) := by decide +kernel
theorem dX9_sum_54 : decode cX9_sum 54 = .ok (.invokevirtual 203, 3) := by decide +kernel
theorem dX9_sum_57 : decode cX9_sum 57 = .ok (.lreturn, 1) := by decide +kernel
theorem dX9_gap_0 : decode cX9_gap 0 = .ok (.aload_n 0, 1) := by decide +kernel
theorem dX9_gap_1 : decode cX9_gap 1 = .ok (.getfield 12, 3) := by decide +kernel
theorem dX9_gap_4 : decode cX9_gap 4 = .ok (.getfield 83, 3) := by decide +kernel
theorem dX9_gap_7 : decode cX9_gap 7 = .ok (.iload_n 1, 1) := by decide +kernel
theorem dX9_gap_8 : decode cX9_gap 8 = .ok (.iload_n 2, 1) := by decide +kernel
theorem dX9_gap_9 : decode cX9_gap 9 = .ok (.invokevirtual 112, 3) := by decide +kernel
theorem dX9_gap_12 : decode cX9_gap 12 = .ok (.ifCond .ne 7, 3) := by decide +kernel
theorem dX9_gap_15 : decode cX9_gap 15 = .ok (.ldc2_w 190, 3) := by decide +kernel
theorem dX9_gap_18 : decode cX9_gap 18 = .ok (.lreturn, 1) := by decide +kernel
theorem dX9_gap_19 : decode cX9_gap 19 = .ok (.aload_n 0, 1) := by decide +kernel
theorem dX9_gap_20 : decode cX9_gap 20 = .ok (.iload_n 1, 1) := by decide +kernel
theorem dX9_gap_21 : decode cX9_gap 21 = .ok (.iload_n 2, 1) := by decide +kernel
theorem dX9_gap_22 : decode cX9_gap 22 = .ok (.invokevirtual 207, 3) := by decide +kernel
theorem dX9_gap_25 : decode cX9_gap 25 = .ok (.ifCond .ne 7, 3) := by decide +kernel
theorem dX9_gap_28 : decode cX9_gap 28 = .ok (.ldc2_w 190, 3) := by decide +kernel
theorem dX9_gap_31 : decode cX9_gap 31 = .ok (.lreturn, 1) := by decide +kernel
theorem dX9_gap_32 : decode cX9_gap 32 = .ok (.aload_n 0, 1) := by decide +kernel
theorem dX9_gap_33 : decode cX9_gap 33 = .ok (.getfield 66, 3) := by decide +kernel
theorem dX9_gap_36 : decode cX9_gap 36 = .ok (.iload_n 3, 1) := by decide +kernel
theorem dX9_gap_37 : decode cX9_gap 37 = .ok (.invokevirtual 203, 3) := by decide +kernel
theorem dX9_gap_40 : decode cX9_gap 40 = .ok (.lreturn, 1) := by decide +kernel
theorem dX9_isGapFound_0 : decode cX9_isGapFound 0 = .ok (.aload_n 0, 1) := by decide +kernel
theorem dX9_isGapFound_1 : decode cX9_isGapFound 1 = .ok (.getfield 12, 3) := by decide +kernel
theorem dX9_isGapFound_4 : decode cX9_isGapFound 4 = .ok (.getfield 102, 3) := by decide +kernel
theorem dX9_isGapFound_7 : decode cX9_isGapFound 7 = .ok (.aload_n 0, 1) := by decide +kernel
theorem dX9_isGapFound_8 : decode cX9_isGapFound 8 = .ok (.getfield 12, 3) := by decide +kernel
theorem dX9_isGapFound_11 : decode cX9_isGapFound 11 = .ok (.getfield 83, 3) := by decide +kernel
theorem dX9_isGapFound_14 : decode cX9_isGapFound 14 = .ok (.iload_n 1, 1) := by decide +kernel
theorem dX9_isGapFound_15 : decode cX9_isGapFound 15 = .ok (.iload_n 2, 1) := by decide +kernel
theorem dX9_isGapFound_16 : decode cX9_isGapFound 16 = .ok (.aload_n 0, 1) := by decide +kernel
theorem dX9_isGapFound_17 : decode cX9_isGapFound 17 = .ok (.getfield 66, 3) := by decide +kernel
theorem dX9_isGapFound_20 : decode cX9_isGapFound 20 = .ok (.invokevirtual 199, 3) := by decide +kernel
theorem dX9_isGapFound_23 : decode cX9_isGapFound 23 = .ok (.ifCond .ne 5, 3) := by decide +kernel
theorem dX9_isGapFound_26 : decode cX9_isGapFound 26 = .ok (.iconst 0, 1) := by decide +kernel
theorem dX9_isGapFound_27 : decode cX9_isGapFound 27 = .ok (.ireturn, 1) := by decide +kernel
theorem dX9_isGapFound_28 : decode cX9_isGapFound 28 = .ok (.aload_n 0, 1) := by decide +kernel
theorem dX9_isGapFound_29 : decode cX9_isGapFound 29 = .ok (.getfield 12, 3) := by decide +kernel
theorem dX9_isGapFound_32 : decode cX9_isGapFound 32 = .ok (.getfield 83, 3) := by decide +kernel
theorem dX9_isGapFound_35 : decode cX9_isGapFound 35 = .ok (.getfield 115, 3) := by decide +kernel
theorem dX9_isGapFound_38 : decode cX9_isGapFound 38 = .ok (.iload_n 1, 1) := by decide +kernel
theorem dX9_isGapFound_39 : decode cX9_isGapFound 39 = .ok (.iload_n 2, 1) := by decide +kernel
theorem dX9_isGapFound_40 : decode cX9_isGapFound 40 = .ok (.invokestatic 98, 3) := by decide +kernel
theorem dX9_isGapFound_43 : decode cX9_isGapFound 43 = .ok (.iaload, 1) := by decide +kernel
theorem dX9_isGapFound_44 : decode cX9_isGapFound 44 = .ok (.i2l, 1) := by decide +kernel
theorem dX9_isGapFound_45 : decode cX9_isGapFound 45 = .ok (.aload_n 0, 1) := by decide +kernel
theorem dX9_isGapFound_46 : decode cX9_isGapFound 46 = .ok (.getfield 66, 3) := by decide +kernel
theorem dX9_isGapFound_49 : decode cX9_isGapFound 49 = .ok (.getfield 210, 3) := by decide +kernel
theorem dX9_isGapFound_52 : decode cX9_isGapFound 52 = .ok (.lmul, 1) := by decide +kernel
theorem dX9_isGapFound_53 : decode cX9_isGapFound 53 = .ok (.lstore_n 3, 1) := by decide +kernel
theorem dX9_isGapFound_54 : decode cX9_isGapFound 54 = .ok (.aload_n 0, 1) := by decide +kernel
theorem dX9_isGapFound_55 : decode cX9_isGapFound 55 = .ok (.getfield 66, 3) := by decide +kernel
theorem dX9_isGapFound_58 : decode cX9_isGapFound 58 = .ok (.aload_n 0, 1) := by decide +kernel
theorem dX9_isGapFound_59 : decode cX9_isGapFound 59 = .ok (.getfield 66, 3) := by decide +kernel
theorem dX9_isGapFound_62 : decode cX9_isGapFound 62 = .ok (.getfield 213, 3) := by decide +kernel
theorem dX9_isGapFound_65 : decode cX9_isGapFound 65 = .ok (.lload_n 3, 1) := by decide +kernel
theorem dX9_isGapFound_66 : decode cX9_isGapFound 66 = .ok (.lsub, 1) := by decide +kernel
theorem dX9_isGapFound_67 : decode cX9_isGapFound 67 = .ok (.invokestatic 215, 3) := by decide +kernel
theorem dX9_isGapFound_70 : decode cX9_isGapFound 70 = .ok (.aload_n 0, 1) := by decide +kernel
theorem dX9_isGapFound_71 : decode cX9_isGapFound 71 = .ok (.getfield 66, 3) := by decide +kernel
theorem dX9_isGapFound_74 : decode cX9_isGapFound 74 = .ok (.getfield 210, 3) := by decide +kernel
theorem dX9_isGapFound_77 : decode cX9_isGapFound 77 = .ok (.invokevirtual 221, 3) := by decide +kernel
theorem dX9_isGapFound_80 : decode cX9_isGapFound 80 = .ok (.iconst 1, 1) := by decide +kernel
theorem dX9_isGapFound_81 : decode cX9_isGapFound 81 = .ok (.ireturn, 1) := by decide +kernel
theorem dX9_farthest_0 : decode cX9_farthest 0 = .ok (.aload_n 0, 1) := by decide +kernel
theorem dX9_farthest_1 : decode cX9_farthest 1 = .ok (.invokevirtual 224, 3) := by decide +kernel
theorem dX9_farthest_4 : decode cX9_farthest 4 = .ok (.ireturn, 1) := by decide +kernel
theorem dX9_seekWidest_0 : decode cX9_seekWidest 0 = .ok (.iconst (-1), 1) := by decide +kernel
theorem dX9_seekWidest_1 : decode cX9_seekWidest 1 = .ok (.istore_n 1, 1) := by decide +kernel
theorem dX9_seekWidest_2 : decode cX9_seekWidest 2 = .ok (.aload_n 0, 1) := by decide +kernel
theorem dX9_seekWidest_3 : decode cX9_seekWidest 3 = .ok (.getfield 12, 3) := by decide +kernel
theorem dX9_seekWidest_6 : decode cX9_seekWidest 6 = .ok (.getfield 83, 3) := by decide +kernel
theorem dX9_seekWidest_9 : decode cX9_seekWidest 9 = .ok (.getfield 118, 3) := by decide +kernel
theorem dX9_seekWidest_12 : decode cX9_seekWidest 12 = .ok (.ifCond .eq 7, 3) := by decide +kernel
theorem dX9_seekWidest_15 : decode cX9_seekWidest 15 = .ok (.iconst 3, 1) := by decide +kernel
theorem dX9_seekWidest_16 : decode cX9_seekWidest 16 = .ok (.goto 4, 3) := by decide +kernel
theorem dX9_seekWidest_19 : decode cX9_seekWidest 19 = .ok (.iconst 2, 1) := by decide +kernel
theorem dX9_seekWidest_20 : decode cX9_seekWidest 20 = .ok (.istore_n 2, 1) := by decide +kernel
theorem dX9_seekWidest_21 : decode cX9_seekWidest 21 = .ok (.iconst 0, 1) := by decide +kernel
theorem dX9_seekWidest_22 : decode cX9_seekWidest 22 = .ok (.istore_n 3, 1) := by decide +kernel
theorem dX9_seekWidest_23 : decode cX9_seekWidest 23 = .ok (.iload_n 3, 1) := by decide +kernel
theorem dX9_seekWidest_24 : decode cX9_seekWidest 24 = .ok (.iload_n 2, 1) := by decide +kernel
theorem dX9_seekWidest_25 : decode cX9_seekWidest 25 = .ok (.if_icmp .ge 95, 3) := by decide +kernel
theorem dX9_seekWidest_28 : decode cX9_seekWidest 28 = .ok (.iconst 0, 1) := by decide +kernel
theorem dX9_seekWidest_29 : decode cX9_seekWidest 29 = .ok (.istore 4, 2) := by decide +kernel
theorem dX9_seekWidest_31 : decode cX9_seekWidest 31 = .ok (.iload 4, 2) := by decide +kernel
theorem dX9_seekWidest_33 : decode cX9_seekWidest 33 = .ok (.aload_n 0, 1) := by decide +kernel
theorem dX9_seekWidest_34 : decode cX9_seekWidest 34 = .ok (.getfield 12, 3) := by decide +kernel
theorem dX9_seekWidest_37 : decode cX9_seekWidest 37 = .ok (.getfield 83, 3) := by decide +kernel
theorem dX9_seekWidest_40 : decode cX9_seekWidest 40 = .ok (.iload_n 3, 1) := by decide +kernel
theorem dX9_seekWidest_41 : decode cX9_seekWidest 41 = .ok (.invokevirtual 227, 3) := by decide +kernel
theorem dX9_seekWidest_44 : decode cX9_seekWidest 44 = .ok (.if_icmp .ge 70, 3) := by decide +kernel
theorem dX9_seekWidest_47 : decode cX9_seekWidest 47 = .ok (.aload_n 0, 1) := by decide +kernel
theorem dX9_seekWidest_48 : decode cX9_seekWidest 48 = .ok (.iload_n 3, 1) := by decide +kernel
theorem dX9_seekWidest_49 : decode cX9_seekWidest 49 = .ok (.iload 4, 2) := by decide +kernel
theorem dX9_seekWidest_51 : decode cX9_seekWidest 51 = .ok (.invokevirtual 207, 3) := by decide +kernel
theorem dX9_seekWidest_54 : decode cX9_seekWidest 54 = .ok (.ifCond .ne 6, 3) := by decide +kernel
theorem dX9_seekWidest_57 : decode cX9_seekWidest 57 = .ok (.bipush (-6), 2) := by decide +kernel
theorem dX9_seekWidest_59 : decode cX9_seekWidest 59 = .ok (.ireturn, 1) := by decide +kernel
theorem dX9_seekWidest_60 : decode cX9_seekWidest 60 = .ok (.iload_n 1, 1) := by decide +kernel
theorem dX9_seekWidest_61 : decode cX9_seekWidest 61 = .ok (.iconst (-1), 1) := by decide +kernel
theorem dX9_seekWidest_62 : decode cX9_seekWidest 62 = .ok (.if_icmp .eq 17, 3) := by decide +kernel
theorem dX9_seekWidest_65 : decode cX9_seekWidest 65 = .ok (.aload_n 0, 1) := by decide +kernel
theorem dX9_seekWidest_66 : decode cX9_seekWidest 66 = .ok (.getfield 66, 3) := by decide +kernel
theorem dX9_seekWidest_69 : decode cX9_seekWidest 69 = .ok (.aload_n 0, 1) := by decide +kernel
theorem dX9_seekWidest_70 : decode cX9_seekWidest 70 = .ok (.getfield 69, 3) := by decide +kernel
theorem dX9_seekWidest_73 : decode cX9_seekWidest 73 = .ok (.invokevirtual 230, 3) := by decide +kernel
theorem dX9_seekWidest_76 : decode cX9_seekWidest 76 = .ok (.ifCond .eq 32, 3) := by decide +kernel
theorem dX9_seekWidest_79 : decode cX9_seekWidest 79 = .ok (.aload_n 0, 1) := by decide +kernel
theorem dX9_seekWidest_80 : decode cX9_seekWidest 80 = .ok (.getfield 69, 3) := by decide +kernel
theorem dX9_seekWidest_83 : decode cX9_seekWidest 83 = .ok (.aload_n 0, 1) := by decide +kernel
theorem dX9_seekWidest_84 : decode cX9_seekWidest 84 = .ok (.getfield 66, 3) := by decide +kernel
theorem dX9_seekWidest_87 : decode cX9_seekWidest 87 = .ok (.getfield 213, 3) := by decide +kernel
theorem dX9_seekWidest_90 : decode cX9_seekWidest 90 = .ok (.aload_n 0, 1) := by decide +kernel
theorem dX9_seekWidest_91 : decode cX9_seekWidest 91 = .ok (.getfield 66, 3) := by decide +kernel
theorem dX9_seekWidest_94 : decode cX9_seekWidest 94 = .ok (.getfield 210, 3) := by decide +kernel
theorem dX9_seekWidest_97 : decode cX9_seekWidest 97 = .ok (.invokevirtual 221, 3) := by decide +kernel
theorem dX9_seekWidest_100 : decode cX9_seekWidest 100 = .ok (.bipush 10, 2) := by decide +kernel
theorem dX9_seekWidest_102 : decode cX9_seekWidest 102 = .ok (.iload_n 3, 1) := by decide +kernel
theorem dX9_seekWidest_103 : decode cX9_seekWidest 103 = .ok (.imul, 1) := by decide +kernel
theorem dX9_seekWidest_104 : decode cX9_seekWidest 104 = .ok (.iload 4, 2) := by decide +kernel
theorem dX9_seekWidest_106 : decode cX9_seekWidest 106 = .ok (.iadd, 1) := by decide +kernel
theorem dX9_seekWidest_107 : decode cX9_seekWidest 107 = .ok (.istore_n 1, 1) := by decide +kernel
theorem dX9_seekWidest_108 : decode cX9_seekWidest 108 = .ok (.iinc 4 1, 3) := by decide +kernel
theorem dX9_seekWidest_111 : decode cX9_seekWidest 111 = .ok (.goto (-80), 3) := by decide +kernel
theorem dX9_seekWidest_114 : decode cX9_seekWidest 114 = .ok (.iinc 3 1, 3) := by decide +kernel
theorem dX9_seekWidest_117 : decode cX9_seekWidest 117 = .ok (.goto (-94), 3) := by decide +kernel
theorem dX9_seekWidest_120 : decode cX9_seekWidest 120 = .ok (.iload_n 1, 1) := by decide +kernel
theorem dX9_seekWidest_121 : decode cX9_seekWidest 121 = .ok (.ireturn, 1) := by decide +kernel
theorem dX9_told_0 : decode cX9_told 0 = .ok (.iload_n 1, 1) := by decide +kernel
theorem dX9_told_1 : decode cX9_told 1 = .ok (.tableswitch 165 0 7 #[47, 58, 69, 83, 94, 129, 143, 154], 47) := by decide +kernel
theorem dX9_told_48 : decode cX9_told 48 = .ok (.aload_n 0, 1) := by decide +kernel
theorem dX9_told_49 : decode cX9_told 49 = .ok (.getfield 12, 3) := by decide +kernel
theorem dX9_told_52 : decode cX9_told 52 = .ok (.getfield 83, 3) := by decide +kernel
theorem dX9_told_55 : decode cX9_told 55 = .ok (.getfield 234, 3) := by decide +kernel
theorem dX9_told_58 : decode cX9_told 58 = .ok (.ireturn, 1) := by decide +kernel
theorem dX9_told_59 : decode cX9_told 59 = .ok (.aload_n 0, 1) := by decide +kernel
theorem dX9_told_60 : decode cX9_told 60 = .ok (.getfield 12, 3) := by decide +kernel
theorem dX9_told_63 : decode cX9_told 63 = .ok (.getfield 83, 3) := by decide +kernel
theorem dX9_told_66 : decode cX9_told 66 = .ok (.getfield 237, 3) := by decide +kernel
theorem dX9_told_69 : decode cX9_told 69 = .ok (.ireturn, 1) := by decide +kernel
theorem dX9_told_70 : decode cX9_told 70 = .ok (.aload_n 0, 1) := by decide +kernel
theorem dX9_told_71 : decode cX9_told 71 = .ok (.getfield 12, 3) := by decide +kernel
theorem dX9_told_74 : decode cX9_told 74 = .ok (.getfield 83, 3) := by decide +kernel
theorem dX9_told_77 : decode cX9_told 77 = .ok (.getfield 118, 3) := by decide +kernel
theorem dX9_told_80 : decode cX9_told 80 = .ok (.invokestatic 122, 3) := by decide +kernel
theorem dX9_told_83 : decode cX9_told 83 = .ok (.ireturn, 1) := by decide +kernel
theorem dX9_told_84 : decode cX9_told 84 = .ok (.aload_n 0, 1) := by decide +kernel
theorem dX9_told_85 : decode cX9_told 85 = .ok (.getfield 12, 3) := by decide +kernel
theorem dX9_told_88 : decode cX9_told 88 = .ok (.getfield 102, 3) := by decide +kernel
theorem dX9_told_91 : decode cX9_told 91 = .ok (.getfield 171, 3) := by decide +kernel
theorem dX9_told_94 : decode cX9_told 94 = .ok (.ireturn, 1) := by decide +kernel
theorem dX9_told_95 : decode cX9_told 95 = .ok (.aload_n 0, 1) := by decide +kernel
theorem dX9_told_96 : decode cX9_told 96 = .ok (.invokevirtual 224, 3) := by decide +kernel
theorem dX9_told_99 : decode cX9_told 99 = .ok (.bipush (-6), 2) := by decide +kernel
theorem dX9_told_101 : decode cX9_told 101 = .ok (.if_icmp .ne 8, 3) := by decide +kernel
theorem dX9_told_104 : decode cX9_told 104 = .ok (.bipush (-6), 2) := by decide +kernel
theorem dX9_told_106 : decode cX9_told 106 = .ok (.goto 23, 3) := by decide +kernel
theorem dX9_told_109 : decode cX9_told 109 = .ok (.aload_n 0, 1) := by decide +kernel
theorem dX9_told_110 : decode cX9_told 110 = .ok (.getfield 69, 3) := by decide +kernel
theorem dX9_told_113 : decode cX9_told 113 = .ok (.getfield 213, 3) := by decide +kernel
theorem dX9_told_116 : decode cX9_told 116 = .ok (.lconst 0, 1) := by decide +kernel
theorem dX9_told_117 : decode cX9_told 117 = .ok (.lcmp, 1) := by decide +kernel
theorem dX9_told_118 : decode cX9_told 118 = .ok (.ifCond .ne 7, 3) := by decide +kernel
theorem dX9_told_121 : decode cX9_told 121 = .ok (.iconst 1, 1) := by decide +kernel
theorem dX9_told_122 : decode cX9_told 122 = .ok (.goto 4, 3) := by decide +kernel
theorem dX9_told_125 : decode cX9_told 125 = .ok (.iconst 0, 1) := by decide +kernel
theorem dX9_told_126 : decode cX9_told 126 = .ok (.invokestatic 122, 3) := by decide +kernel
theorem dX9_told_129 : decode cX9_told 129 = .ok (.ireturn, 1) := by decide +kernel
theorem dX9_told_130 : decode cX9_told 130 = .ok (.aload_n 0, 1) := by decide +kernel
theorem dX9_told_131 : decode cX9_told 131 = .ok (.getfield 12, 3) := by decide +kernel
theorem dX9_told_134 : decode cX9_told 134 = .ok (.getfield 83, 3) := by decide +kernel
theorem dX9_told_137 : decode cX9_told 137 = .ok (.invokevirtual 240, 3) := by decide +kernel
theorem dX9_told_140 : decode cX9_told 140 = .ok (.invokestatic 122, 3) := by decide +kernel
theorem dX9_told_143 : decode cX9_told 143 = .ok (.ireturn, 1) := by decide +kernel
theorem dX9_told_144 : decode cX9_told 144 = .ok (.aload_n 0, 1) := by decide +kernel
theorem dX9_told_145 : decode cX9_told 145 = .ok (.getfield 12, 3) := by decide +kernel
theorem dX9_told_148 : decode cX9_told 148 = .ok (.getfield 83, 3) := by decide +kernel
theorem dX9_told_151 : decode cX9_told 151 = .ok (.invokevirtual 244, 3) := by decide +kernel
theorem dX9_told_154 : decode cX9_told 154 = .ok (.ireturn, 1) := by decide +kernel
theorem dX9_told_155 : decode cX9_told 155 = .ok (.aload_n 0, 1) := by decide +kernel
theorem dX9_told_156 : decode cX9_told 156 = .ok (.getfield 12, 3) := by decide +kernel
theorem dX9_told_159 : decode cX9_told 159 = .ok (.getfield 83, 3) := by decide +kernel
theorem dX9_told_162 : decode cX9_told 162 = .ok (.invokevirtual 247, 3) := by decide +kernel
theorem dX9_told_165 : decode cX9_told 165 = .ok (.ireturn, 1) := by decide +kernel
theorem dX9_told_166 : decode cX9_told 166 = .ok (.iconst (-1), 1) := by decide +kernel
theorem dX9_told_167 : decode cX9_told 167 = .ok (.ireturn, 1) := by decide +kernel
theorem dX9_rounded_0 : decode cX9_rounded 0 = .ok (.aload_n 0, 1) := by decide +kernel
theorem dX9_rounded_1 : decode cX9_rounded 1 = .ok (.getfield 12, 3) := by decide +kernel
theorem dX9_rounded_4 : decode cX9_rounded 4 = .ok (.getfield 83, 3) := by decide +kernel
theorem dX9_rounded_7 : decode cX9_rounded 7 = .ok (.iload_n 1, 1) := by decide +kernel
theorem dX9_rounded_8 : decode cX9_rounded 8 = .ok (.iload_n 2, 1) := by decide +kernel
theorem dX9_rounded_9 : decode cX9_rounded 9 = .ok (.invokevirtual 90, 3) := by decide +kernel
theorem dX9_rounded_12 : decode cX9_rounded 12 = .ok (.ifCond .ne 5, 3) := by decide +kernel
theorem dX9_rounded_15 : decode cX9_rounded 15 = .ok (.iconst (-1), 1) := by decide +kernel
theorem dX9_rounded_16 : decode cX9_rounded 16 = .ok (.ireturn, 1) := by decide +kernel
theorem dX9_rounded_17 : decode cX9_rounded 17 = .ok (.aload_n 0, 1) := by decide +kernel
theorem dX9_rounded_18 : decode cX9_rounded 18 = .ok (.getfield 38, 3) := by decide +kernel
theorem dX9_rounded_21 : decode cX9_rounded 21 = .ok (.aload_n 0, 1) := by decide +kernel
theorem dX9_rounded_22 : decode cX9_rounded 22 = .ok (.getfield 12, 3) := by decide +kernel
theorem dX9_rounded_25 : decode cX9_rounded 25 = .ok (.getfield 83, 3) := by decide +kernel
theorem dX9_rounded_28 : decode cX9_rounded 28 = .ok (.aload_n 0, 1) := by decide +kernel
theorem dX9_rounded_29 : decode cX9_rounded 29 = .ok (.getfield 12, 3) := by decide +kernel
theorem dX9_rounded_32 : decode cX9_rounded 32 = .ok (.getfield 102, 3) := by decide +kernel
theorem dX9_rounded_35 : decode cX9_rounded 35 = .ok (.invokevirtual 250, 3) := by decide +kernel
theorem dX9_rounded_38 : decode cX9_rounded 38 = .ok (.ifCond .ne 6, 3) := by decide +kernel
theorem dX9_rounded_41 : decode cX9_rounded 41 = .ok (.bipush (-6), 2) := by decide +kernel
theorem dX9_rounded_43 : decode cX9_rounded 43 = .ok (.ireturn, 1) := by decide +kernel
theorem dX9_rounded_44 : decode cX9_rounded 44 = .ok (.aload_n 0, 1) := by decide +kernel
theorem dX9_rounded_45 : decode cX9_rounded 45 = .ok (.getfield 38, 3) := by decide +kernel
theorem dX9_rounded_48 : decode cX9_rounded 48 = .ok (.getfield 253, 3) := by decide +kernel
theorem dX9_rounded_51 : decode cX9_rounded 51 = .ok (.iload_n 1, 1) := by decide +kernel
theorem dX9_rounded_52 : decode cX9_rounded 52 = .ok (.iload_n 2, 1) := by decide +kernel
theorem dX9_rounded_53 : decode cX9_rounded 53 = .ok (.invokestatic 98, 3) := by decide +kernel
theorem dX9_rounded_56 : decode cX9_rounded 56 = .ok (.iaload, 1) := by decide +kernel
theorem dX9_rounded_57 : decode cX9_rounded 57 = .ok (.ireturn, 1) := by decide +kernel
theorem dX9_together_0 : decode cX9_together 0 = .ok (.aload_n 0, 1) := by decide +kernel
theorem dX9_together_1 : decode cX9_together 1 = .ok (.getfield 12, 3) := by decide +kernel
theorem dX9_together_4 : decode cX9_together 4 = .ok (.getfield 83, 3) := by decide +kernel
theorem dX9_together_7 : decode cX9_together 7 = .ok (.iload_n 1, 1) := by decide +kernel
theorem dX9_together_8 : decode cX9_together 8 = .ok (.iload_n 2, 1) := by decide +kernel
theorem dX9_together_9 : decode cX9_together 9 = .ok (.invokevirtual 112, 3) := by decide +kernel
theorem dX9_together_12 : decode cX9_together 12 = .ok (.ifCond .ne 5, 3) := by decide +kernel
theorem dX9_together_15 : decode cX9_together 15 = .ok (.iconst (-1), 1) := by decide +kernel
theorem dX9_together_16 : decode cX9_together 16 = .ok (.ireturn, 1) := by decide +kernel
theorem dX9_together_17 : decode cX9_together 17 = .ok (.aload_n 0, 1) := by decide +kernel
theorem dX9_together_18 : decode cX9_together 18 = .ok (.getfield 38, 3) := by decide +kernel
theorem dX9_together_21 : decode cX9_together 21 = .ok (.aload_n 0, 1) := by decide +kernel
theorem dX9_together_22 : decode cX9_together 22 = .ok (.getfield 12, 3) := by decide +kernel
theorem dX9_together_25 : decode cX9_together 25 = .ok (.getfield 83, 3) := by decide +kernel
theorem dX9_together_28 : decode cX9_together 28 = .ok (.aload_n 0, 1) := by decide +kernel
theorem dX9_together_29 : decode cX9_together 29 = .ok (.getfield 12, 3) := by decide +kernel
theorem dX9_together_32 : decode cX9_together 32 = .ok (.getfield 102, 3) := by decide +kernel
theorem dX9_together_35 : decode cX9_together 35 = .ok (.invokevirtual 250, 3) := by decide +kernel
theorem dX9_together_38 : decode cX9_together 38 = .ok (.ifCond .ne 6, 3) := by decide +kernel
theorem dX9_together_41 : decode cX9_together 41 = .ok (.bipush (-6), 2) := by decide +kernel
theorem dX9_together_43 : decode cX9_together 43 = .ok (.ireturn, 1) := by decide +kernel
theorem dX9_together_44 : decode cX9_together 44 = .ok (.iconst 0, 1) := by decide +kernel
theorem dX9_together_45 : decode cX9_together 45 = .ok (.istore_n 3, 1) := by decide +kernel
theorem dX9_together_46 : decode cX9_together 46 = .ok (.iconst 0, 1) := by decide +kernel
theorem dX9_together_47 : decode cX9_together 47 = .ok (.istore 4, 2) := by decide +kernel
theorem dX9_together_49 : decode cX9_together 49 = .ok (.iload 4, 2) := by decide +kernel
theorem dX9_together_51 : decode cX9_together 51 = .ok (.aload_n 0, 1) := by decide +kernel
theorem dX9_together_52 : decode cX9_together 52 = .ok (.getfield 12, 3) := by decide +kernel
theorem dX9_together_55 : decode cX9_together 55 = .ok (.getfield 83, 3) := by decide +kernel
theorem dX9_together_58 : decode cX9_together 58 = .ok (.getfield 234, 3) := by decide +kernel
theorem dX9_together_61 : decode cX9_together 61 = .ok (.if_icmp .ge 70, 3) := by decide +kernel
theorem dX9_together_64 : decode cX9_together 64 = .ok (.iconst 0, 1) := by decide +kernel
theorem dX9_together_65 : decode cX9_together 65 = .ok (.istore 5, 2) := by decide +kernel
theorem dX9_together_67 : decode cX9_together 67 = .ok (.iload 5, 2) := by decide +kernel
theorem dX9_together_69 : decode cX9_together 69 = .ok (.aload_n 0, 1) := by decide +kernel
theorem dX9_together_70 : decode cX9_together 70 = .ok (.getfield 12, 3) := by decide +kernel
theorem dX9_together_73 : decode cX9_together 73 = .ok (.getfield 83, 3) := by decide +kernel
theorem dX9_together_76 : decode cX9_together 76 = .ok (.getfield 237, 3) := by decide +kernel
theorem dX9_together_79 : decode cX9_together 79 = .ok (.if_icmp .ge 46, 3) := by decide +kernel
theorem dX9_together_82 : decode cX9_together 82 = .ok (.aload_n 0, 1) := by decide +kernel
theorem dX9_together_83 : decode cX9_together 83 = .ok (.getfield 12, 3) := by decide +kernel
theorem dX9_together_86 : decode cX9_together 86 = .ok (.getfield 83, 3) := by decide +kernel
theorem dX9_together_89 : decode cX9_together 89 = .ok (.iload_n 1, 1) := by decide +kernel
theorem dX9_together_90 : decode cX9_together 90 = .ok (.iload 4, 2) := by decide +kernel
theorem dX9_together_92 : decode cX9_together 92 = .ok (.iload 5, 2) := by decide +kernel
theorem dX9_together_94 : decode cX9_together 94 = .ok (.invokevirtual 256, 3) := by decide +kernel
theorem dX9_together_97 : decode cX9_together 97 = .ok (.iload_n 2, 1) := by decide +kernel
theorem dX9_together_98 : decode cX9_together 98 = .ok (.if_icmp .ne 21, 3) := by decide +kernel
theorem dX9_together_101 : decode cX9_together 101 = .ok (.iload_n 3, 1) := by decide +kernel
theorem dX9_together_102 : decode cX9_together 102 = .ok (.aload_n 0, 1) := by decide +kernel
theorem dX9_together_103 : decode cX9_together 103 = .ok (.getfield 38, 3) := by decide +kernel
theorem dX9_together_106 : decode cX9_together 106 = .ok (.getfield 253, 3) := by decide +kernel
theorem dX9_together_109 : decode cX9_together 109 = .ok (.iload 4, 2) := by decide +kernel
theorem dX9_together_111 : decode cX9_together 111 = .ok (.iload 5, 2) := by decide +kernel
theorem dX9_together_113 : decode cX9_together 113 = .ok (.invokestatic 98, 3) := by decide +kernel
theorem dX9_together_116 : decode cX9_together 116 = .ok (.iaload, 1) := by decide +kernel
theorem dX9_together_117 : decode cX9_together 117 = .ok (.iadd, 1) := by decide +kernel
theorem dX9_together_118 : decode cX9_together 118 = .ok (.istore_n 3, 1) := by decide +kernel
theorem dX9_together_119 : decode cX9_together 119 = .ok (.iinc 5 1, 3) := by decide +kernel
theorem dX9_together_122 : decode cX9_together 122 = .ok (.goto (-55), 3) := by decide +kernel
theorem dX9_together_125 : decode cX9_together 125 = .ok (.iinc 4 1, 3) := by decide +kernel
theorem dX9_together_128 : decode cX9_together 128 = .ok (.goto (-79), 3) := by decide +kernel
theorem dX9_together_131 : decode cX9_together 131 = .ok (.iload_n 3, 1) := by decide +kernel
theorem dX9_together_132 : decode cX9_together 132 = .ok (.ireturn, 1) := by decide +kernel
theorem dX9_cross_0 : decode cX9_cross 0 = .ok (.aload_n 0, 1) := by decide +kernel
theorem dX9_cross_1 : decode cX9_cross 1 = .ok (.getfield 12, 3) := by decide +kernel
theorem dX9_cross_4 : decode cX9_cross 4 = .ok (.getfield 83, 3) := by decide +kernel
theorem dX9_cross_7 : decode cX9_cross 7 = .ok (.iload_n 1, 1) := by decide +kernel
theorem dX9_cross_8 : decode cX9_cross 8 = .ok (.iload_n 3, 1) := by decide +kernel
theorem dX9_cross_9 : decode cX9_cross 9 = .ok (.invokevirtual 90, 3) := by decide +kernel
theorem dX9_cross_12 : decode cX9_cross 12 = .ok (.ifCond .eq 19, 3) := by decide +kernel
theorem dX9_cross_15 : decode cX9_cross 15 = .ok (.aload_n 0, 1) := by decide +kernel
theorem dX9_cross_16 : decode cX9_cross 16 = .ok (.getfield 12, 3) := by decide +kernel
theorem dX9_cross_19 : decode cX9_cross 19 = .ok (.getfield 83, 3) := by decide +kernel
theorem dX9_cross_22 : decode cX9_cross 22 = .ok (.iload_n 2, 1) := by decide +kernel
theorem dX9_cross_23 : decode cX9_cross 23 = .ok (.iload 4, 2) := by decide +kernel
theorem dX9_cross_25 : decode cX9_cross 25 = .ok (.invokevirtual 90, 3) := by decide +kernel
theorem dX9_cross_28 : decode cX9_cross 28 = .ok (.ifCond .ne 7, 3) := by decide +kernel
theorem dX9_cross_31 : decode cX9_cross 31 = .ok (.ldc2_w 190, 3) := by decide +kernel
theorem dX9_cross_34 : decode cX9_cross 34 = .ok (.lreturn, 1) := by decide +kernel
theorem dX9_cross_35 : decode cX9_cross 35 = .ok (.iload 5, 2) := by decide +kernel
theorem dX9_cross_37 : decode cX9_cross 37 = .ok (.ifCond .lt 9, 3) := by decide +kernel
theorem dX9_cross_40 : decode cX9_cross 40 = .ok (.iload 5, 2) := by decide +kernel
theorem dX9_cross_42 : decode cX9_cross 42 = .ok (.iconst 1, 1) := by decide +kernel
theorem dX9_cross_43 : decode cX9_cross 43 = .ok (.if_icmp .le 7, 3) := by decide +kernel
theorem dX9_cross_46 : decode cX9_cross 46 = .ok (.ldc2_w 190, 3) := by decide +kernel
theorem dX9_cross_49 : decode cX9_cross 49 = .ok (.lreturn, 1) := by decide +kernel
theorem dX9_cross_50 : decode cX9_cross 50 = .ok (.aload_n 0, 1) := by decide +kernel
theorem dX9_cross_51 : decode cX9_cross 51 = .ok (.getfield 75, 3) := by decide +kernel
theorem dX9_cross_54 : decode cX9_cross 54 = .ok (.invokevirtual 259, 3) := by decide +kernel
theorem dX9_cross_57 : decode cX9_cross 57 = .ok (.aload_n 0, 1) := by decide +kernel
theorem dX9_cross_58 : decode cX9_cross 58 = .ok (.getfield 75, 3) := by decide +kernel
theorem dX9_cross_61 : decode cX9_cross 61 = .ok (.aload_n 0, 1) := by decide +kernel
theorem dX9_cross_62 : decode cX9_cross 62 = .ok (.getfield 12, 3) := by decide +kernel
theorem dX9_cross_65 : decode cX9_cross 65 = .ok (.getfield 102, 3) := by decide +kernel
theorem dX9_cross_68 : decode cX9_cross 68 = .ok (.iload_n 1, 1) := by decide +kernel
theorem dX9_cross_69 : decode cX9_cross 69 = .ok (.iload_n 3, 1) := by decide +kernel
theorem dX9_cross_70 : decode cX9_cross 70 = .ok (.invokestatic 98, 3) := by decide +kernel
theorem dX9_cross_73 : decode cX9_cross 73 = .ok (.invokevirtual 262, 3) := by decide +kernel
theorem dX9_cross_76 : decode cX9_cross 76 = .ok (.aload_n 0, 1) := by decide +kernel
theorem dX9_cross_77 : decode cX9_cross 77 = .ok (.getfield 75, 3) := by decide +kernel
theorem dX9_cross_80 : decode cX9_cross 80 = .ok (.aload_n 0, 1) := by decide +kernel
theorem dX9_cross_81 : decode cX9_cross 81 = .ok (.getfield 12, 3) := by decide +kernel
theorem dX9_cross_84 : decode cX9_cross 84 = .ok (.getfield 102, 3) := by decide +kernel
theorem dX9_cross_87 : decode cX9_cross 87 = .ok (.iload_n 1, 1) := by decide +kernel
theorem dX9_cross_88 : decode cX9_cross 88 = .ok (.iload 4, 2) := by decide +kernel
theorem dX9_cross_90 : decode cX9_cross 90 = .ok (.invokestatic 98, 3) := by decide +kernel
theorem dX9_cross_93 : decode cX9_cross 93 = .ok (.invokevirtual 266, 3) := by decide +kernel
theorem dX9_cross_96 : decode cX9_cross 96 = .ok (.aload_n 0, 1) := by decide +kernel
theorem dX9_cross_97 : decode cX9_cross 97 = .ok (.getfield 75, 3) := by decide +kernel
theorem dX9_cross_100 : decode cX9_cross 100 = .ok (.aload_n 0, 1) := by decide +kernel
theorem dX9_cross_101 : decode cX9_cross 101 = .ok (.getfield 12, 3) := by decide +kernel
theorem dX9_cross_104 : decode cX9_cross 104 = .ok (.getfield 102, 3) := by decide +kernel
theorem dX9_cross_107 : decode cX9_cross 107 = .ok (.iload_n 2, 1) := by decide +kernel
theorem dX9_cross_108 : decode cX9_cross 108 = .ok (.iload 4, 2) := by decide +kernel
theorem dX9_cross_110 : decode cX9_cross 110 = .ok (.invokestatic 98, 3) := by decide +kernel
theorem dX9_cross_113 : decode cX9_cross 113 = .ok (.invokevirtual 262, 3) := by decide +kernel
theorem dX9_cross_116 : decode cX9_cross 116 = .ok (.aload_n 0, 1) := by decide +kernel
theorem dX9_cross_117 : decode cX9_cross 117 = .ok (.getfield 75, 3) := by decide +kernel
theorem dX9_cross_120 : decode cX9_cross 120 = .ok (.aload_n 0, 1) := by decide +kernel
theorem dX9_cross_121 : decode cX9_cross 121 = .ok (.getfield 12, 3) := by decide +kernel
theorem dX9_cross_124 : decode cX9_cross 124 = .ok (.getfield 102, 3) := by decide +kernel
theorem dX9_cross_127 : decode cX9_cross 127 = .ok (.iload_n 2, 1) := by decide +kernel
theorem dX9_cross_128 : decode cX9_cross 128 = .ok (.iload_n 3, 1) := by decide +kernel
theorem dX9_cross_129 : decode cX9_cross 129 = .ok (.invokestatic 98, 3) := by decide +kernel
theorem dX9_cross_132 : decode cX9_cross 132 = .ok (.invokevirtual 266, 3) := by decide +kernel
theorem dX9_cross_135 : decode cX9_cross 135 = .ok (.aload_n 0, 1) := by decide +kernel
theorem dX9_cross_136 : decode cX9_cross 136 = .ok (.getfield 75, 3) := by decide +kernel
theorem dX9_cross_139 : decode cX9_cross 139 = .ok (.iload 5, 2) := by decide +kernel
theorem dX9_cross_141 : decode cX9_cross 141 = .ok (.invokevirtual 269, 3) := by decide +kernel
theorem dX9_cross_144 : decode cX9_cross 144 = .ok (.lreturn, 1) := by decide +kernel
theorem dX9_orders_0 : decode cX9_orders 0 = .ok (.lconst 1, 1) := by decide +kernel
theorem dX9_orders_1 : decode cX9_orders 1 = .ok (.lstore_n 1, 1) := by decide +kernel
theorem dX9_orders_2 : decode cX9_orders 2 = .ok (.iconst 0, 1) := by decide +kernel
theorem dX9_orders_3 : decode cX9_orders 3 = .ok (.istore_n 3, 1) := by decide +kernel
theorem dX9_orders_4 : decode cX9_orders 4 = .ok (.iconst 0, 1) := by decide +kernel
theorem dX9_orders_5 : decode cX9_orders 5 = .ok (.istore 4, 2) := by decide +kernel
theorem dX9_orders_7 : decode cX9_orders 7 = .ok (.iload 4, 2) := by decide +kernel
theorem dX9_orders_9 : decode cX9_orders 9 = .ok (.aload_n 0, 1) := by decide +kernel
theorem dX9_orders_10 : decode cX9_orders 10 = .ok (.getfield 12, 3) := by decide +kernel
theorem dX9_orders_13 : decode cX9_orders 13 = .ok (.getfield 83, 3) := by decide +kernel
theorem dX9_orders_16 : decode cX9_orders 16 = .ok (.getfield 234, 3) := by decide +kernel
theorem dX9_orders_19 : decode cX9_orders 19 = .ok (.if_icmp .ge 90, 3) := by decide +kernel
theorem dX9_orders_22 : decode cX9_orders 22 = .ok (.iconst 0, 1) := by decide +kernel
theorem dX9_orders_23 : decode cX9_orders 23 = .ok (.istore 5, 2) := by decide +kernel
theorem dX9_orders_25 : decode cX9_orders 25 = .ok (.iload 5, 2) := by decide +kernel
theorem dX9_orders_27 : decode cX9_orders 27 = .ok (.aload_n 0, 1) := by decide +kernel
theorem dX9_orders_28 : decode cX9_orders 28 = .ok (.getfield 12, 3) := by decide +kernel
theorem dX9_orders_31 : decode cX9_orders 31 = .ok (.getfield 83, 3) := by decide +kernel
theorem dX9_orders_34 : decode cX9_orders 34 = .ok (.getfield 237, 3) := by decide +kernel
theorem dX9_orders_37 : decode cX9_orders 37 = .ok (.if_icmp .ge 66, 3) := by decide +kernel
theorem dX9_orders_40 : decode cX9_orders 40 = .ok (.iconst 1, 1) := by decide +kernel
theorem dX9_orders_41 : decode cX9_orders 41 = .ok (.istore 6, 2) := by decide +kernel
theorem dX9_orders_43 : decode cX9_orders 43 = .ok (.iload 6, 2) := by decide +kernel
theorem dX9_orders_45 : decode cX9_orders 45 = .ok (.aload_n 0, 1) := by decide +kernel
theorem dX9_orders_46 : decode cX9_orders 46 = .ok (.getfield 12, 3) := by decide +kernel
theorem dX9_orders_49 : decode cX9_orders 49 = .ok (.getfield 83, 3) := by decide +kernel
theorem dX9_orders_52 : decode cX9_orders 52 = .ok (.getfield 94, 3) := by decide +kernel
theorem dX9_orders_55 : decode cX9_orders 55 = .ok (.iload 4, 2) := by decide +kernel
theorem dX9_orders_57 : decode cX9_orders 57 = .ok (.iload 5, 2) := by decide +kernel
theorem dX9_orders_59 : decode cX9_orders 59 = .ok (.invokestatic 98, 3) := by decide +kernel
theorem dX9_orders_62 : decode cX9_orders 62 = .ok (.iaload, 1) := by decide +kernel
theorem dX9_orders_63 : decode cX9_orders 63 = .ok (.if_icmp .gt 34, 3) := by decide +kernel
theorem dX9_orders_66 : decode cX9_orders 66 = .ok (.iinc 3 1, 3) := by decide +kernel
theorem dX9_orders_69 : decode cX9_orders 69 = .ok (.lload_n 1, 1) := by decide +kernel
theorem dX9_orders_70 : decode cX9_orders 70 = .ok (.iload_n 3, 1) := by decide +kernel
theorem dX9_orders_71 : decode cX9_orders 71 = .ok (.i2l, 1) := by decide +kernel
theorem dX9_orders_72 : decode cX9_orders 72 = .ok (.iload 6, 2) := by decide +kernel
theorem dX9_orders_74 : decode cX9_orders 74 = .ok (.i2l, 1) := by decide +kernel
theorem dX9_orders_75 : decode cX9_orders 75 = .ok (.invokestatic 270, 3) := by decide +kernel
theorem dX9_orders_78 : decode cX9_orders 78 = .ok (.lstore_n 1, 1) := by decide +kernel
theorem dX9_orders_79 : decode cX9_orders 79 = .ok (.lload_n 1, 1) := by decide +kernel
theorem dX9_orders_80 : decode cX9_orders 80 = .ok (.ldc2_w 190, 3) := by decide +kernel
theorem dX9_orders_83 : decode cX9_orders 83 = .ok (.lcmp, 1) := by decide +kernel
theorem dX9_orders_84 : decode cX9_orders 84 = .ok (.ifCond .ne 7, 3) := by decide +kernel
theorem dX9_orders_87 : decode cX9_orders 87 = .ok (.ldc2_w 190, 3) := by decide +kernel
theorem dX9_orders_90 : decode cX9_orders 90 = .ok (.lreturn, 1) := by decide +kernel
theorem dX9_orders_91 : decode cX9_orders 91 = .ok (.iinc 6 1, 3) := by decide +kernel
theorem dX9_orders_94 : decode cX9_orders 94 = .ok (.goto (-51), 3) := by decide +kernel
theorem dX9_orders_97 : decode cX9_orders 97 = .ok (.iinc 5 1, 3) := by decide +kernel
theorem dX9_orders_100 : decode cX9_orders 100 = .ok (.goto (-75), 3) := by decide +kernel
theorem dX9_orders_103 : decode cX9_orders 103 = .ok (.iinc 4 1, 3) := by decide +kernel
theorem dX9_orders_106 : decode cX9_orders 106 = .ok (.goto (-99), 3) := by decide +kernel
theorem dX9_orders_109 : decode cX9_orders 109 = .ok (.lload_n 1, 1) := by decide +kernel
theorem dX9_orders_110 : decode cX9_orders 110 = .ok (.lreturn, 1) := by decide +kernel
theorem dX9_rank_0 : decode cX9_rank 0 = .ok (.iconst 0, 1) := by decide +kernel
theorem dX9_rank_1 : decode cX9_rank 1 = .ok (.istore_n 2, 1) := by decide +kernel
theorem dX9_rank_2 : decode cX9_rank 2 = .ok (.iload_n 2, 1) := by decide +kernel
theorem dX9_rank_3 : decode cX9_rank 3 = .ok (.aload_n 0, 1) := by decide +kernel
theorem dX9_rank_4 : decode cX9_rank 4 = .ok (.getfield 12, 3) := by decide +kernel
theorem dX9_rank_7 : decode cX9_rank 7 = .ok (.getfield 83, 3) := by decide +kernel
theorem dX9_rank_10 : decode cX9_rank 10 = .ok (.getfield 234, 3) := by decide +kernel
theorem dX9_rank_13 : decode cX9_rank 13 = .ok (.if_icmp .ge 51, 3) := by decide +kernel
theorem dX9_rank_16 : decode cX9_rank 16 = .ok (.iconst 0, 1) := by decide +kernel
theorem dX9_rank_17 : decode cX9_rank 17 = .ok (.istore_n 3, 1) := by decide +kernel
theorem dX9_rank_18 : decode cX9_rank 18 = .ok (.iload_n 3, 1) := by decide +kernel
theorem dX9_rank_19 : decode cX9_rank 19 = .ok (.aload_n 0, 1) := by decide +kernel
theorem dX9_rank_20 : decode cX9_rank 20 = .ok (.getfield 12, 3) := by decide +kernel
theorem dX9_rank_23 : decode cX9_rank 23 = .ok (.getfield 83, 3) := by decide +kernel
theorem dX9_rank_26 : decode cX9_rank 26 = .ok (.getfield 237, 3) := by decide +kernel
theorem dX9_rank_29 : decode cX9_rank 29 = .ok (.if_icmp .ge 29, 3) := by decide +kernel
theorem dX9_rank_32 : decode cX9_rank 32 = .ok (.aload_n 0, 1) := by decide +kernel
theorem dX9_rank_33 : decode cX9_rank 33 = .ok (.iload_n 2, 1) := by decide +kernel
theorem dX9_rank_34 : decode cX9_rank 34 = .ok (.iload_n 3, 1) := by decide +kernel
theorem dX9_rank_35 : decode cX9_rank 35 = .ok (.invokestatic 98, 3) := by decide +kernel
theorem dX9_rank_38 : decode cX9_rank 38 = .ok (.invokevirtual 274, 3) := by decide +kernel
theorem dX9_rank_41 : decode cX9_rank 41 = .ok (.iload_n 1, 1) := by decide +kernel
theorem dX9_rank_42 : decode cX9_rank 42 = .ok (.if_icmp .ne 10, 3) := by decide +kernel
theorem dX9_rank_45 : decode cX9_rank 45 = .ok (.bipush 10, 2) := by decide +kernel
theorem dX9_rank_47 : decode cX9_rank 47 = .ok (.iload_n 2, 1) := by decide +kernel
theorem dX9_rank_48 : decode cX9_rank 48 = .ok (.imul, 1) := by decide +kernel
theorem dX9_rank_49 : decode cX9_rank 49 = .ok (.iload_n 3, 1) := by decide +kernel
theorem dX9_rank_50 : decode cX9_rank 50 = .ok (.iadd, 1) := by decide +kernel
theorem dX9_rank_51 : decode cX9_rank 51 = .ok (.ireturn, 1) := by decide +kernel
theorem dX9_rank_52 : decode cX9_rank 52 = .ok (.iinc 3 1, 3) := by decide +kernel
theorem dX9_rank_55 : decode cX9_rank 55 = .ok (.goto (-37), 3) := by decide +kernel
theorem dX9_rank_58 : decode cX9_rank 58 = .ok (.iinc 2 1, 3) := by decide +kernel
theorem dX9_rank_61 : decode cX9_rank 61 = .ok (.goto (-59), 3) := by decide +kernel
theorem dX9_rank_64 : decode cX9_rank 64 = .ok (.iconst (-1), 1) := by decide +kernel
theorem dX9_rank_65 : decode cX9_rank 65 = .ok (.ireturn, 1) := by decide +kernel
theorem dX9_countAhead_0 : decode cX9_countAhead 0 = .ok (.iconst 0, 1) := by decide +kernel
theorem dX9_countAhead_1 : decode cX9_countAhead 1 = .ok (.istore_n 2, 1) := by decide +kernel
theorem dX9_countAhead_2 : decode cX9_countAhead 2 = .ok (.iconst 0, 1) := by decide +kernel
theorem dX9_countAhead_3 : decode cX9_countAhead 3 = .ok (.istore_n 3, 1) := by decide +kernel
theorem dX9_countAhead_4 : decode cX9_countAhead 4 = .ok (.iload_n 3, 1) := by decide +kernel
theorem dX9_countAhead_5 : decode cX9_countAhead 5 = .ok (.aload_n 0, 1) := by decide +kernel
theorem dX9_countAhead_6 : decode cX9_countAhead 6 = .ok (.getfield 12, 3) := by decide +kernel
theorem dX9_countAhead_9 : decode cX9_countAhead 9 = .ok (.getfield 83, 3) := by decide +kernel
theorem dX9_countAhead_12 : decode cX9_countAhead 12 = .ok (.getfield 234, 3) := by decide +kernel
theorem dX9_countAhead_15 : decode cX9_countAhead 15 = .ok (.if_icmp .ge 75, 3) := by decide +kernel
theorem dX9_countAhead_18 : decode cX9_countAhead 18 = .ok (.iconst 0, 1) := by decide +kernel
theorem dX9_countAhead_19 : decode cX9_countAhead 19 = .ok (.istore 4, 2) := by decide +kernel
theorem dX9_countAhead_21 : decode cX9_countAhead 21 = .ok (.iload 4, 2) := by decide +kernel
theorem dX9_countAhead_23 : decode cX9_countAhead 23 = .ok (.aload_n 0, 1) := by decide +kernel
theorem dX9_countAhead_24 : decode cX9_countAhead 24 = .ok (.getfield 12, 3) := by decide +kernel
theorem dX9_countAhead_27 : decode cX9_countAhead 27 = .ok (.getfield 83, 3) := by decide +kernel
theorem dX9_countAhead_30 : decode cX9_countAhead 30 = .ok (.getfield 237, 3) := by decide +kernel
theorem dX9_countAhead_33 : decode cX9_countAhead 33 = .ok (.if_icmp .ge 51, 3) := by decide +kernel
theorem dX9_countAhead_36 : decode cX9_countAhead 36 = .ok (.iload_n 3, 1) := by decide +kernel
theorem dX9_countAhead_37 : decode cX9_countAhead 37 = .ok (.iload 4, 2) := by decide +kernel
theorem dX9_countAhead_39 : decode cX9_countAhead 39 = .ok (.invokestatic 98, 3) := by decide +kernel
theorem dX9_countAhead_42 : decode cX9_countAhead 42 = .ok (.istore 5, 2) := by decide +kernel
theorem dX9_countAhead_44 : decode cX9_countAhead 44 = .ok (.aload_n 0, 1) := by decide +kernel
theorem dX9_countAhead_45 : decode cX9_countAhead 45 = .ok (.getfield 12, 3) := by decide +kernel
theorem dX9_countAhead_48 : decode cX9_countAhead 48 = .ok (.getfield 102, 3) := by decide +kernel
theorem dX9_countAhead_51 : decode cX9_countAhead 51 = .ok (.iload 5, 2) := by decide +kernel
theorem dX9_countAhead_53 : decode cX9_countAhead 53 = .ok (.iload_n 1, 1) := by decide +kernel
theorem dX9_countAhead_54 : decode cX9_countAhead 54 = .ok (.invokevirtual 277, 3) := by decide +kernel
theorem dX9_countAhead_57 : decode cX9_countAhead 57 = .ok (.istore 6, 2) := by decide +kernel
theorem dX9_countAhead_59 : decode cX9_countAhead 59 = .ok (.iload 6, 2) := by decide +kernel
theorem dX9_countAhead_61 : decode cX9_countAhead 61 = .ok (.ifCond .gt 14, 3) := by decide +kernel
theorem dX9_countAhead_64 : decode cX9_countAhead 64 = .ok (.iload 6, 2) := by decide +kernel
theorem dX9_countAhead_66 : decode cX9_countAhead 66 = .ok (.ifCond .ne 12, 3) := by decide +kernel
theorem dX9_countAhead_69 : decode cX9_countAhead 69 = .ok (.iload 5, 2) := by decide +kernel
theorem dX9_countAhead_71 : decode cX9_countAhead 71 = .ok (.iload_n 1, 1) := by decide +kernel
theorem dX9_countAhead_72 : decode cX9_countAhead 72 = .ok (.if_icmp .ge 6, 3) := by decide +kernel
theorem dX9_countAhead_75 : decode cX9_countAhead 75 = .ok (.iinc 2 1, 3) := by decide +kernel
theorem dX9_countAhead_78 : decode cX9_countAhead 78 = .ok (.iinc 4 1, 3) := by decide +kernel
theorem dX9_countAhead_81 : decode cX9_countAhead 81 = .ok (.goto (-60), 3) := by decide +kernel
theorem dX9_countAhead_84 : decode cX9_countAhead 84 = .ok (.iinc 3 1, 3) := by decide +kernel
theorem dX9_countAhead_87 : decode cX9_countAhead 87 = .ok (.goto (-83), 3) := by decide +kernel
theorem dX9_countAhead_90 : decode cX9_countAhead 90 = .ok (.iload_n 2, 1) := by decide +kernel
theorem dX9_countAhead_91 : decode cX9_countAhead 91 = .ok (.ireturn, 1) := by decide +kernel
theorem dX9_see_0 : decode cX9_see 0 = .ok (.aload_n 0, 1) := by decide +kernel
theorem dX9_see_1 : decode cX9_see 1 = .ok (.aload_n 0, 1) := by decide +kernel
theorem dX9_see_2 : decode cX9_see 2 = .ok (.getfield 12, 3) := by decide +kernel
theorem dX9_see_5 : decode cX9_see 5 = .ok (.getfield 280, 3) := by decide +kernel
theorem dX9_see_8 : decode cX9_see 8 = .ok (.iload_n 1, 1) := by decide +kernel
theorem dX9_see_9 : decode cX9_see 9 = .ok (.iload_n 2, 1) := by decide +kernel
theorem dX9_see_10 : decode cX9_see 10 = .ok (.iload_n 3, 1) := by decide +kernel
theorem dX9_see_11 : decode cX9_see 11 = .ok (.invokevirtual 284, 3) := by decide +kernel
theorem dX9_see_14 : decode cX9_see 14 = .ok (.ireturn, 1) := by decide +kernel
theorem dX9_noteCell_0 : decode cX9_noteCell 0 = .ok (.iload_n 2, 1) := by decide +kernel
theorem dX9_noteCell_1 : decode cX9_noteCell 1 = .ok (.iconst (-1), 1) := by decide +kernel
theorem dX9_noteCell_2 : decode cX9_noteCell 2 = .ok (.if_icmp .ne 8, 3) := by decide +kernel
theorem dX9_noteCell_5 : decode cX9_noteCell 5 = .ok (.aload_n 1, 1) := by decide +kernel
theorem dX9_noteCell_6 : decode cX9_noteCell 6 = .ok (.invokevirtual 288, 3) := by decide +kernel
theorem dX9_noteCell_9 : decode cX9_noteCell 9 = .ok (.ireturn, 1) := by decide +kernel
theorem dX9_noteCell_10 : decode cX9_noteCell 10 = .ok (.aload_n 0, 1) := by decide +kernel
theorem dX9_noteCell_11 : decode cX9_noteCell 11 = .ok (.getfield 12, 3) := by decide +kernel
theorem dX9_noteCell_14 : decode cX9_noteCell 14 = .ok (.getfield 83, 3) := by decide +kernel
theorem dX9_noteCell_17 : decode cX9_noteCell 17 = .ok (.iload_n 2, 1) := by decide +kernel
theorem dX9_noteCell_18 : decode cX9_noteCell 18 = .ok (.iload_n 3, 1) := by decide +kernel
theorem dX9_noteCell_19 : decode cX9_noteCell 19 = .ok (.invokevirtual 90, 3) := by decide +kernel
theorem dX9_noteCell_22 : decode cX9_noteCell 22 = .ok (.ifCond .ne 5, 3) := by decide +kernel
theorem dX9_noteCell_25 : decode cX9_noteCell 25 = .ok (.iconst (-1), 1) := by decide +kernel
theorem dX9_noteCell_26 : decode cX9_noteCell 26 = .ok (.ireturn, 1) := by decide +kernel
theorem dX9_noteCell_27 : decode cX9_noteCell 27 = .ok (.iload 4, 2) := by decide +kernel
theorem dX9_noteCell_29 : decode cX9_noteCell 29 = .ok (.ifCond .lt 10, 3) := by decide +kernel
theorem dX9_noteCell_32 : decode cX9_noteCell 32 = .ok (.iload 4, 2) := by decide +kernel
theorem dX9_noteCell_34 : decode cX9_noteCell 34 = .ok (.bipush 60, 2) := by decide +kernel
theorem dX9_noteCell_36 : decode cX9_noteCell 36 = .ok (.if_icmp .le 6, 3) := by decide +kernel
theorem dX9_noteCell_39 : decode cX9_noteCell 39 = .ok (.bipush (-2), 2) := by decide +kernel
theorem dX9_noteCell_41 : decode cX9_noteCell 41 = .ok (.ireturn, 1) := by decide +kernel
theorem dX9_noteCell_42 : decode cX9_noteCell 42 = .ok (.aload_n 1, 1) := by decide +kernel
theorem dX9_noteCell_43 : decode cX9_noteCell 43 = .ok (.iload_n 2, 1) := by decide +kernel
theorem dX9_noteCell_44 : decode cX9_noteCell 44 = .ok (.iload_n 3, 1) := by decide +kernel
theorem dX9_noteCell_45 : decode cX9_noteCell 45 = .ok (.invokestatic 98, 3) := by decide +kernel
theorem dX9_noteCell_48 : decode cX9_noteCell 48 = .ok (.iload 4, 2) := by decide +kernel
theorem dX9_noteCell_50 : decode cX9_noteCell 50 = .ok (.invokevirtual 293, 3) := by decide +kernel
theorem dX9_noteCell_53 : decode cX9_noteCell 53 = .ok (.ireturn, 1) := by decide +kernel
theorem dX9_fitting_0 : decode cX9_fitting 0 = .ok (.aload_n 0, 1) := by decide +kernel
theorem dX9_fitting_1 : decode cX9_fitting 1 = .ok (.getfield 12, 3) := by decide +kernel
theorem dX9_fitting_4 : decode cX9_fitting 4 = .ok (.getfield 83, 3) := by decide +kernel
theorem dX9_fitting_7 : decode cX9_fitting 7 = .ok (.iload_n 1, 1) := by decide +kernel
theorem dX9_fitting_8 : decode cX9_fitting 8 = .ok (.iload_n 2, 1) := by decide +kernel
theorem dX9_fitting_9 : decode cX9_fitting 9 = .ok (.invokevirtual 90, 3) := by decide +kernel
theorem dX9_fitting_12 : decode cX9_fitting 12 = .ok (.ifCond .eq 12, 3) := by decide +kernel
theorem dX9_fitting_15 : decode cX9_fitting 15 = .ok (.iload_n 3, 1) := by decide +kernel
theorem dX9_fitting_16 : decode cX9_fitting 16 = .ok (.ifCond .lt 8, 3) := by decide +kernel
theorem dX9_fitting_19 : decode cX9_fitting 19 = .ok (.iload_n 3, 1) := by decide +kernel
theorem dX9_fitting_20 : decode cX9_fitting 20 = .ok (.iconst 1, 1) := by decide +kernel
theorem dX9_fitting_21 : decode cX9_fitting 21 = .ok (.if_icmp .le 5, 3) := by decide +kernel
theorem dX9_fitting_24 : decode cX9_fitting 24 = .ok (.iconst (-1), 1) := by decide +kernel
theorem dX9_fitting_25 : decode cX9_fitting 25 = .ok (.ireturn, 1) := by decide +kernel
theorem dX9_fitting_26 : decode cX9_fitting 26 = .ok (.iconst 0, 1) := by decide +kernel
theorem dX9_fitting_27 : decode cX9_fitting 27 = .ok (.istore 4, 2) := by decide +kernel
theorem dX9_fitting_29 : decode cX9_fitting 29 = .ok (.bipush (-5), 2) := by decide +kernel
theorem dX9_fitting_31 : decode cX9_fitting 31 = .ok (.istore 5, 2) := by decide +kernel
theorem dX9_fitting_33 : decode cX9_fitting 33 = .ok (.iconst 0, 1) := by decide +kernel
theorem dX9_fitting_34 : decode cX9_fitting 34 = .ok (.istore 6, 2) := by decide +kernel
theorem dX9_fitting_36 : decode cX9_fitting 36 = .ok (.iload 6, 2) := by decide +kernel
theorem dX9_fitting_38 : decode cX9_fitting 38 = .ok (.bipush 20, 2) := by decide +kernel
theorem dX9_fitting_40 : decode cX9_fitting 40 = .ok (.if_icmp .gt 51, 3) := by decide +kernel
theorem dX9_fitting_43 : decode cX9_fitting 43 = .ok (.aload_n 0, 1) := by decide +kernel
theorem dX9_fitting_44 : decode cX9_fitting 44 = .ok (.iload_n 1, 1) := by decide +kernel
theorem dX9_fitting_45 : decode cX9_fitting 45 = .ok (.iload_n 2, 1) := by decide +kernel
theorem dX9_fitting_46 : decode cX9_fitting 46 = .ok (.invokestatic 98, 3) := by decide +kernel
theorem dX9_fitting_49 : decode cX9_fitting 49 = .ok (.iload 6, 2) := by decide +kernel
theorem dX9_fitting_51 : decode cX9_fitting 51 = .ok (.invokevirtual 295, 3) := by decide +kernel
theorem dX9_fitting_54 : decode cX9_fitting 54 = .ok (.ifCond .eq 31, 3) := by decide +kernel
theorem dX9_fitting_57 : decode cX9_fitting 57 = .ok (.aload_n 0, 1) := by decide +kernel
theorem dX9_fitting_58 : decode cX9_fitting 58 = .ok (.aload_n 0, 1) := by decide +kernel
theorem dX9_fitting_59 : decode cX9_fitting 59 = .ok (.getfield 12, 3) := by decide +kernel
theorem dX9_fitting_62 : decode cX9_fitting 62 = .ok (.getfield 280, 3) := by decide +kernel
theorem dX9_fitting_65 : decode cX9_fitting 65 = .ok (.invokevirtual 298, 3) := by decide +kernel
theorem dX9_fitting_68 : decode cX9_fitting 68 = .ok (.bipush (-5), 2) := by decide +kernel
theorem dX9_fitting_70 : decode cX9_fitting 70 = .ok (.if_icmp .ne 15, 3) := by decide +kernel
theorem dX9_fitting_73 : decode cX9_fitting 73 = .ok (.iload 4, 2) := by decide +kernel
theorem dX9_fitting_75 : decode cX9_fitting 75 = .ok (.ifCond .ne 7, 3) := by decide +kernel
theorem dX9_fitting_78 : decode cX9_fitting 78 = .ok (.iload 6, 2) := by decide +kernel
theorem dX9_fitting_80 : decode cX9_fitting 80 = .ok (.istore 5, 2) := by decide +kernel
theorem dX9_fitting_82 : decode cX9_fitting 82 = .ok (.iinc 4 1, 3) := by decide +kernel
theorem dX9_fitting_85 : decode cX9_fitting 85 = .ok (.iinc 6 1, 3) := by decide +kernel
theorem dX9_fitting_88 : decode cX9_fitting 88 = .ok (.goto (-52), 3) := by decide +kernel
theorem dX9_fitting_91 : decode cX9_fitting 91 = .ok (.iload_n 3, 1) := by decide +kernel
theorem dX9_fitting_92 : decode cX9_fitting 92 = .ok (.ifCond .ne 8, 3) := by decide +kernel
theorem dX9_fitting_95 : decode cX9_fitting 95 = .ok (.iload 4, 2) := by decide +kernel
theorem dX9_fitting_97 : decode cX9_fitting 97 = .ok (.goto 5, 3) := by decide +kernel
theorem dX9_fitting_100 : decode cX9_fitting 100 = .ok (.iload 5, 2) := by decide +kernel
theorem dX9_fitting_102 : decode cX9_fitting 102 = .ok (.ireturn, 1) := by decide +kernel
theorem dX9_isRoundedBehind_0 : decode cX9_isRoundedBehind 0 = .ok (.aload_n 0, 1) := by decide +kernel
theorem dX9_isRoundedBehind_1 : decode cX9_isRoundedBehind 1 = .ok (.getfield 45, 3) := by decide +kernel
theorem dX9_isRoundedBehind_4 : decode cX9_isRoundedBehind 4 = .ok (.aload_n 0, 1) := by decide +kernel
theorem dX9_isRoundedBehind_5 : decode cX9_isRoundedBehind 5 = .ok (.getfield 12, 3) := by decide +kernel
theorem dX9_isRoundedBehind_8 : decode cX9_isRoundedBehind 8 = .ok (.getfield 83, 3) := by decide +kernel
theorem dX9_isRoundedBehind_11 : decode cX9_isRoundedBehind 11 = .ok (.invokevirtual 302, 3) := by decide +kernel
theorem dX9_isRoundedBehind_14 : decode cX9_isRoundedBehind 14 = .ok (.aload_n 0, 1) := by decide +kernel
theorem dX9_isRoundedBehind_15 : decode cX9_isRoundedBehind 15 = .ok (.getfield 45, 3) := by decide +kernel
theorem dX9_isRoundedBehind_18 : decode cX9_isRoundedBehind 18 = .ok (.getfield 94, 3) := by decide +kernel
theorem dX9_isRoundedBehind_21 : decode cX9_isRoundedBehind 21 = .ok (.iload_n 1, 1) := by decide +kernel
theorem dX9_isRoundedBehind_22 : decode cX9_isRoundedBehind 22 = .ok (.iload_n 2, 1) := by decide +kernel
theorem dX9_isRoundedBehind_23 : decode cX9_isRoundedBehind 23 = .ok (.iastore, 1) := by decide +kernel
theorem dX9_isRoundedBehind_24 : decode cX9_isRoundedBehind 24 = .ok (.aload_n 0, 1) := by decide +kernel
theorem dX9_isRoundedBehind_25 : decode cX9_isRoundedBehind 25 = .ok (.getfield 52, 3) := by decide +kernel
theorem dX9_isRoundedBehind_28 : decode cX9_isRoundedBehind 28 = .ok (.aload_n 0, 1) := by decide +kernel
theorem dX9_isRoundedBehind_29 : decode cX9_isRoundedBehind 29 = .ok (.getfield 45, 3) := by decide +kernel
theorem dX9_isRoundedBehind_32 : decode cX9_isRoundedBehind 32 = .ok (.invokevirtual 105, 3) := by decide +kernel
theorem dX9_isRoundedBehind_35 : decode cX9_isRoundedBehind 35 = .ok (.aload_n 0, 1) := by decide +kernel
theorem dX9_isRoundedBehind_36 : decode cX9_isRoundedBehind 36 = .ok (.aload_n 0, 1) := by decide +kernel
theorem dX9_isRoundedBehind_37 : decode cX9_isRoundedBehind 37 = .ok (.getfield 45, 3) := by decide +kernel
theorem dX9_isRoundedBehind_40 : decode cX9_isRoundedBehind 40 = .ok (.aload_n 0, 1) := by decide +kernel
theorem dX9_isRoundedBehind_41 : decode cX9_isRoundedBehind 41 = .ok (.getfield 52, 3) := by decide +kernel
theorem dX9_isRoundedBehind_44 : decode cX9_isRoundedBehind 44 = .ok (.invokevirtual 186, 3) := by decide +kernel
theorem dX9_isRoundedBehind_47 : decode cX9_isRoundedBehind 47 = .ok (.pop, 1) := by decide +kernel
theorem dX9_isRoundedBehind_48 : decode cX9_isRoundedBehind 48 = .ok (.aload_n 0, 1) := by decide +kernel
theorem dX9_isRoundedBehind_49 : decode cX9_isRoundedBehind 49 = .ok (.getfield 38, 3) := by decide +kernel
theorem dX9_isRoundedBehind_52 : decode cX9_isRoundedBehind 52 = .ok (.aload_n 0, 1) := by decide +kernel
theorem dX9_isRoundedBehind_53 : decode cX9_isRoundedBehind 53 = .ok (.getfield 45, 3) := by decide +kernel
theorem dX9_isRoundedBehind_56 : decode cX9_isRoundedBehind 56 = .ok (.aload_n 0, 1) := by decide +kernel
theorem dX9_isRoundedBehind_57 : decode cX9_isRoundedBehind 57 = .ok (.getfield 52, 3) := by decide +kernel
theorem dX9_isRoundedBehind_60 : decode cX9_isRoundedBehind 60 = .ok (.invokevirtual 250, 3) := by decide +kernel
theorem dX9_isRoundedBehind_63 : decode cX9_isRoundedBehind 63 = .ok (.ireturn, 1) := by decide +kernel
theorem dX9_firstOtherwise_0 : decode cX9_firstOtherwise 0 = .ok (.iconst 0, 1) := by decide +kernel
theorem dX9_firstOtherwise_1 : decode cX9_firstOtherwise 1 = .ok (.istore_n 2, 1) := by decide +kernel
theorem dX9_firstOtherwise_2 : decode cX9_firstOtherwise 2 = .ok (.iload_n 2, 1) := by decide +kernel
theorem dX9_firstOtherwise_3 : decode cX9_firstOtherwise 3 = .ok (.aload_n 1, 1) := by decide +kernel
theorem dX9_firstOtherwise_4 : decode cX9_firstOtherwise 4 = .ok (.getfield 304, 3) := by decide +kernel
theorem dX9_firstOtherwise_7 : decode cX9_firstOtherwise 7 = .ok (.if_icmp .ge 34, 3) := by decide +kernel
theorem dX9_firstOtherwise_10 : decode cX9_firstOtherwise 10 = .ok (.aload_n 0, 1) := by decide +kernel
theorem dX9_firstOtherwise_11 : decode cX9_firstOtherwise 11 = .ok (.getfield 38, 3) := by decide +kernel
theorem dX9_firstOtherwise_14 : decode cX9_firstOtherwise 14 = .ok (.getfield 253, 3) := by decide +kernel
theorem dX9_firstOtherwise_17 : decode cX9_firstOtherwise 17 = .ok (.aload_n 1, 1) := by decide +kernel
theorem dX9_firstOtherwise_18 : decode cX9_firstOtherwise 18 = .ok (.getfield 306, 3) := by decide +kernel
theorem dX9_firstOtherwise_21 : decode cX9_firstOtherwise 21 = .ok (.iload_n 2, 1) := by decide +kernel
theorem dX9_firstOtherwise_22 : decode cX9_firstOtherwise 22 = .ok (.iaload, 1) := by decide +kernel
theorem dX9_firstOtherwise_23 : decode cX9_firstOtherwise 23 = .ok (.iaload, 1) := by decide +kernel
theorem dX9_firstOtherwise_24 : decode cX9_firstOtherwise 24 = .ok (.aload_n 1, 1) := by decide +kernel
theorem dX9_firstOtherwise_25 : decode cX9_firstOtherwise 25 = .ok (.getfield 309, 3) := by decide +kernel
theorem dX9_firstOtherwise_28 : decode cX9_firstOtherwise 28 = .ok (.iload_n 2, 1) := by decide +kernel
theorem dX9_firstOtherwise_29 : decode cX9_firstOtherwise 29 = .ok (.iaload, 1) := by decide +kernel
theorem dX9_firstOtherwise_30 : decode cX9_firstOtherwise 30 = .ok (.if_icmp .eq 5, 3) := by decide +kernel
theorem dX9_firstOtherwise_33 : decode cX9_firstOtherwise 33 = .ok (.iload_n 2, 1) := by decide +kernel
theorem dX9_firstOtherwise_34 : decode cX9_firstOtherwise 34 = .ok (.ireturn, 1) := by decide +kernel
theorem dX9_firstOtherwise_35 : decode cX9_firstOtherwise 35 = .ok (.iinc 2 1, 3) := by decide +kernel
theorem dX9_firstOtherwise_38 : decode cX9_firstOtherwise 38 = .ok (.goto (-36), 3) := by decide +kernel
theorem dX9_firstOtherwise_41 : decode cX9_firstOtherwise 41 = .ok (.bipush (-5), 2) := by decide +kernel
theorem dX9_firstOtherwise_43 : decode cX9_firstOtherwise 43 = .ok (.ireturn, 1) := by decide +kernel
theorem dX9_odds_0 : decode cX9_odds 0 = .ok (.aload_n 0, 1) := by decide +kernel
theorem dX9_odds_1 : decode cX9_odds 1 = .ok (.getfield 12, 3) := by decide +kernel
theorem dX9_odds_4 : decode cX9_odds 4 = .ok (.getfield 83, 3) := by decide +kernel
theorem dX9_odds_7 : decode cX9_odds 7 = .ok (.iload_n 1, 1) := by decide +kernel
theorem dX9_odds_8 : decode cX9_odds 8 = .ok (.iload_n 2, 1) := by decide +kernel
theorem dX9_odds_9 : decode cX9_odds 9 = .ok (.invokevirtual 90, 3) := by decide +kernel
theorem dX9_odds_12 : decode cX9_odds 12 = .ok (.ifCond .eq 12, 3) := by decide +kernel
theorem dX9_odds_15 : decode cX9_odds 15 = .ok (.iload_n 3, 1) := by decide +kernel
theorem dX9_odds_16 : decode cX9_odds 16 = .ok (.ifCond .lt 8, 3) := by decide +kernel
theorem dX9_odds_19 : decode cX9_odds 19 = .ok (.iload_n 3, 1) := by decide +kernel
theorem dX9_odds_20 : decode cX9_odds 20 = .ok (.iconst 1, 1) := by decide +kernel
theorem dX9_odds_21 : decode cX9_odds 21 = .ok (.if_icmp .le 7, 3) := by decide +kernel
theorem dX9_odds_24 : decode cX9_odds 24 = .ok (.ldc2_w 190, 3) := by decide +kernel
theorem dX9_odds_27 : decode cX9_odds 27 = .ok (.lreturn, 1) := by decide +kernel
theorem dX9_odds_28 : decode cX9_odds 28 = .ok (.iconst 0, 1) := by decide +kernel
theorem dX9_odds_29 : decode cX9_odds 29 = .ok (.istore 4, 2) := by decide +kernel
theorem dX9_odds_31 : decode cX9_odds 31 = .ok (.iconst 0, 1) := by decide +kernel
theorem dX9_odds_32 : decode cX9_odds 32 = .ok (.istore 5, 2) := by decide +kernel
theorem dX9_odds_34 : decode cX9_odds 34 = .ok (.iload 5, 2) := by decide +kernel
theorem dX9_odds_36 : decode cX9_odds 36 = .ok (.bipush 10, 2) := by decide +kernel
theorem dX9_odds_38 : decode cX9_odds 38 = .ok (.if_icmp .ge 44, 3) := by decide +kernel
theorem dX9_odds_41 : decode cX9_odds 41 = .ok (.aload_n 0, 1) := by decide +kernel
theorem dX9_odds_42 : decode cX9_odds 42 = .ok (.iload_n 1, 1) := by decide +kernel
theorem dX9_odds_43 : decode cX9_odds 43 = .ok (.iload_n 2, 1) := by decide +kernel
theorem dX9_odds_44 : decode cX9_odds 44 = .ok (.invokestatic 98, 3) := by decide +kernel
theorem dX9_odds_47 : decode cX9_odds 47 = .ok (.iload 5, 2) := by decide +kernel
theorem dX9_odds_49 : decode cX9_odds 49 = .ok (.invokevirtual 295, 3) := by decide +kernel
theorem dX9_odds_52 : decode cX9_odds 52 = .ok (.ifCond .eq 24, 3) := by decide +kernel
theorem dX9_odds_55 : decode cX9_odds 55 = .ok (.aload_n 0, 1) := by decide +kernel
theorem dX9_odds_56 : decode cX9_odds 56 = .ok (.getfield 38, 3) := by decide +kernel
theorem dX9_odds_59 : decode cX9_odds 59 = .ok (.getfield 253, 3) := by decide +kernel
theorem dX9_odds_62 : decode cX9_odds 62 = .ok (.iload_n 1, 1) := by decide +kernel
theorem dX9_odds_63 : decode cX9_odds 63 = .ok (.iload_n 2, 1) := by decide +kernel
theorem dX9_odds_64 : decode cX9_odds 64 = .ok (.invokestatic 98, 3) := by decide +kernel
theorem dX9_odds_67 : decode cX9_odds 67 = .ok (.iaload, 1) := by decide +kernel
theorem dX9_odds_68 : decode cX9_odds 68 = .ok (.iload 5, 2) := by decide +kernel
theorem dX9_odds_70 : decode cX9_odds 70 = .ok (.if_icmp .lt 6, 3) := by decide +kernel
theorem dX9_odds_73 : decode cX9_odds 73 = .ok (.iinc 4 1, 3) := by decide +kernel
theorem dX9_odds_76 : decode cX9_odds 76 = .ok (.iinc 5 1, 3) := by decide +kernel
theorem dX9_odds_79 : decode cX9_odds 79 = .ok (.goto (-45), 3) := by decide +kernel
theorem dX9_odds_82 : decode cX9_odds 82 = .ok (.aload_n 0, 1) := by decide +kernel
theorem dX9_odds_83 : decode cX9_odds 83 = .ok (.getfield 62, 3) := by decide +kernel
theorem dX9_odds_86 : decode cX9_odds 86 = .ok (.iload 4, 2) := by decide +kernel
theorem dX9_odds_88 : decode cX9_odds 88 = .ok (.i2l, 1) := by decide +kernel
theorem dX9_odds_89 : decode cX9_odds 89 = .ok (.ldc2_w 312, 3) := by decide +kernel
theorem dX9_odds_92 : decode cX9_odds 92 = .ok (.invokevirtual 221, 3) := by decide +kernel
theorem dX9_odds_95 : decode cX9_odds 95 = .ok (.aload_n 0, 1) := by decide +kernel
theorem dX9_odds_96 : decode cX9_odds 96 = .ok (.getfield 62, 3) := by decide +kernel
theorem dX9_odds_99 : decode cX9_odds 99 = .ok (.iload_n 3, 1) := by decide +kernel
theorem dX9_odds_100 : decode cX9_odds 100 = .ok (.invokevirtual 203, 3) := by decide +kernel
theorem dX9_odds_103 : decode cX9_odds 103 = .ok (.lreturn, 1) := by decide +kernel
theorem dX9_mean_0 : decode cX9_mean 0 = .ok (.aload_n 0, 1) := by decide +kernel
theorem dX9_mean_1 : decode cX9_mean 1 = .ok (.getfield 62, 3) := by decide +kernel
theorem dX9_mean_4 : decode cX9_mean 4 = .ok (.aload_n 0, 1) := by decide +kernel
theorem dX9_mean_5 : decode cX9_mean 5 = .ok (.getfield 12, 3) := by decide +kernel
theorem dX9_mean_8 : decode cX9_mean 8 = .ok (.getfield 83, 3) := by decide +kernel
theorem dX9_mean_11 : decode cX9_mean 11 = .ok (.invokevirtual 247, 3) := by decide +kernel
theorem dX9_mean_14 : decode cX9_mean 14 = .ok (.i2l, 1) := by decide +kernel
theorem dX9_mean_15 : decode cX9_mean 15 = .ok (.aload_n 0, 1) := by decide +kernel
theorem dX9_mean_16 : decode cX9_mean 16 = .ok (.getfield 12, 3) := by decide +kernel
theorem dX9_mean_19 : decode cX9_mean 19 = .ok (.getfield 83, 3) := by decide +kernel
theorem dX9_mean_22 : decode cX9_mean 22 = .ok (.invokevirtual 86, 3) := by decide +kernel
theorem dX9_mean_25 : decode cX9_mean 25 = .ok (.i2l, 1) := by decide +kernel
theorem dX9_mean_26 : decode cX9_mean 26 = .ok (.invokevirtual 221, 3) := by decide +kernel
theorem dX9_mean_29 : decode cX9_mean 29 = .ok (.aload_n 0, 1) := by decide +kernel
theorem dX9_mean_30 : decode cX9_mean 30 = .ok (.getfield 62, 3) := by decide +kernel
theorem dX9_mean_33 : decode cX9_mean 33 = .ok (.iload_n 1, 1) := by decide +kernel
theorem dX9_mean_34 : decode cX9_mean 34 = .ok (.invokevirtual 203, 3) := by decide +kernel
theorem dX9_mean_37 : decode cX9_mean 37 = .ok (.lreturn, 1) := by decide +kernel
theorem dX9_event_0 : decode cX9_event 0 = .ok (.iload_n 1, 1) := by decide +kernel
theorem dX9_event_1 : decode cX9_event 1 = .ok (.iconst (-1), 1) := by decide +kernel
theorem dX9_event_2 : decode cX9_event 2 = .ok (.if_icmp .ne 14, 3) := by decide +kernel
theorem dX9_event_5 : decode cX9_event 5 = .ok (.aload_n 0, 1) := by decide +kernel
theorem dX9_event_6 : decode cX9_event 6 = .ok (.getfield 12, 3) := by decide +kernel
theorem dX9_event_9 : decode cX9_event 9 = .ok (.getfield 314, 3) := by decide +kernel
theorem dX9_event_12 : decode cX9_event 12 = .ok (.invokevirtual 288, 3) := by decide +kernel
theorem dX9_event_15 : decode cX9_event 15 = .ok (.ireturn, 1) := by decide +kernel
theorem dX9_event_16 : decode cX9_event 16 = .ok (.iload_n 1, 1) := by decide +kernel
theorem dX9_event_17 : decode cX9_event 17 = .ok (.tableswitch 105 0 3 #[31, 58, 75, 92], 31) := by decide +kernel
theorem dX9_event_48 : decode cX9_event 48 = .ok (.iload_n 2, 1) := by decide +kernel
theorem dX9_event_49 : decode cX9_event 49 = .ok (.ifCond .lt 24, 3) := by decide +kernel
theorem dX9_event_52 : decode cX9_event 52 = .ok (.aload_n 0, 1) := by decide +kernel
theorem dX9_event_53 : decode cX9_event 53 = .ok (.getfield 12, 3) := by decide +kernel
theorem dX9_event_56 : decode cX9_event 56 = .ok (.getfield 83, 3) := by decide +kernel
theorem dX9_event_59 : decode cX9_event 59 = .ok (.iload_n 2, 1) := by decide +kernel
theorem dX9_event_60 : decode cX9_event 60 = .ok (.bipush 10, 2) := by decide +kernel
theorem dX9_event_62 : decode cX9_event 62 = .ok (.idiv, 1) := by decide +kernel
theorem dX9_event_63 : decode cX9_event 63 = .ok (.iload_n 2, 1) := by decide +kernel
theorem dX9_event_64 : decode cX9_event 64 = .ok (.bipush 10, 2) := by decide +kernel
theorem dX9_event_66 : decode cX9_event 66 = .ok (.irem, 1) := by decide +kernel
theorem dX9_event_67 : decode cX9_event 67 = .ok (.invokevirtual 90, 3) := by decide +kernel
theorem dX9_event_70 : decode cX9_event 70 = .ok (.ifCond .ne 54, 3) := by decide +kernel
theorem dX9_event_73 : decode cX9_event 73 = .ok (.iconst (-1), 1) := by decide +kernel
theorem dX9_event_74 : decode cX9_event 74 = .ok (.ireturn, 1) := by decide +kernel
theorem dX9_event_75 : decode cX9_event 75 = .ok (.aload_n 0, 1) := by decide +kernel
theorem dX9_event_76 : decode cX9_event 76 = .ok (.getfield 12, 3) := by decide +kernel
theorem dX9_event_79 : decode cX9_event 79 = .ok (.getfield 83, 3) := by decide +kernel
theorem dX9_event_82 : decode cX9_event 82 = .ok (.iconst 0, 1) := by decide +kernel
theorem dX9_event_83 : decode cX9_event 83 = .ok (.iload_n 2, 1) := by decide +kernel
theorem dX9_event_84 : decode cX9_event 84 = .ok (.invokevirtual 112, 3) := by decide +kernel
theorem dX9_event_87 : decode cX9_event 87 = .ok (.ifCond .ne 37, 3) := by decide +kernel
theorem dX9_event_90 : decode cX9_event 90 = .ok (.iconst (-1), 1) := by decide +kernel
theorem dX9_event_91 : decode cX9_event 91 = .ok (.ireturn, 1) := by decide +kernel
theorem dX9_event_92 : decode cX9_event 92 = .ok (.aload_n 0, 1) := by decide +kernel
theorem dX9_event_93 : decode cX9_event 93 = .ok (.getfield 12, 3) := by decide +kernel
theorem dX9_event_96 : decode cX9_event 96 = .ok (.getfield 83, 3) := by decide +kernel
theorem dX9_event_99 : decode cX9_event 99 = .ok (.iconst 1, 1) := by decide +kernel
theorem dX9_event_100 : decode cX9_event 100 = .ok (.iload_n 2, 1) := by decide +kernel
theorem dX9_event_101 : decode cX9_event 101 = .ok (.invokevirtual 112, 3) := by decide +kernel
theorem dX9_event_104 : decode cX9_event 104 = .ok (.ifCond .ne 20, 3) := by decide +kernel
theorem dX9_event_107 : decode cX9_event 107 = .ok (.iconst (-1), 1) := by decide +kernel
theorem dX9_event_108 : decode cX9_event 108 = .ok (.ireturn, 1) := by decide +kernel
theorem dX9_event_109 : decode cX9_event 109 = .ok (.iload_n 2, 1) := by decide +kernel
theorem dX9_event_110 : decode cX9_event 110 = .ok (.ifCond .lt 9, 3) := by decide +kernel
theorem dX9_event_113 : decode cX9_event 113 = .ok (.iload_n 2, 1) := by decide +kernel
theorem dX9_event_114 : decode cX9_event 114 = .ok (.bipush 60, 2) := by decide +kernel
theorem dX9_event_116 : decode cX9_event 116 = .ok (.if_icmp .le 8, 3) := by decide +kernel
theorem dX9_event_119 : decode cX9_event 119 = .ok (.bipush (-2), 2) := by decide +kernel
theorem dX9_event_121 : decode cX9_event 121 = .ok (.ireturn, 1) := by decide +kernel
theorem dX9_event_122 : decode cX9_event 122 = .ok (.iconst (-1), 1) := by decide +kernel
theorem dX9_event_123 : decode cX9_event 123 = .ok (.ireturn, 1) := by decide +kernel
theorem dX9_event_124 : decode cX9_event 124 = .ok (.aload_n 0, 1) := by decide +kernel
theorem dX9_event_125 : decode cX9_event 125 = .ok (.getfield 12, 3) := by decide +kernel
theorem dX9_event_128 : decode cX9_event 128 = .ok (.getfield 314, 3) := by decide +kernel
theorem dX9_event_131 : decode cX9_event 131 = .ok (.iload_n 1, 1) := by decide +kernel
theorem dX9_event_132 : decode cX9_event 132 = .ok (.iload_n 2, 1) := by decide +kernel
theorem dX9_event_133 : decode cX9_event 133 = .ok (.invokevirtual 293, 3) := by decide +kernel
theorem dX9_event_136 : decode cX9_event 136 = .ok (.ireturn, 1) := by decide +kernel
theorem dX9_after_0 : decode cX9_after 0 = .ok (.aload_n 0, 1) := by decide +kernel
theorem dX9_after_1 : decode cX9_after 1 = .ok (.getfield 45, 3) := by decide +kernel
theorem dX9_after_4 : decode cX9_after 4 = .ok (.aload_n 0, 1) := by decide +kernel
theorem dX9_after_5 : decode cX9_after 5 = .ok (.getfield 12, 3) := by decide +kernel
theorem dX9_after_8 : decode cX9_after 8 = .ok (.getfield 83, 3) := by decide +kernel
theorem dX9_after_11 : decode cX9_after 11 = .ok (.invokevirtual 302, 3) := by decide +kernel
theorem dX9_after_14 : decode cX9_after 14 = .ok (.iconst 0, 1) := by decide +kernel
theorem dX9_after_15 : decode cX9_after 15 = .ok (.istore_n 2, 1) := by decide +kernel
theorem dX9_after_16 : decode cX9_after 16 = .ok (.iload_n 2, 1) := by decide +kernel
theorem dX9_after_17 : decode cX9_after 17 = .ok (.aload_n 0, 1) := by decide +kernel
theorem dX9_after_18 : decode cX9_after 18 = .ok (.getfield 12, 3) := by decide +kernel
theorem dX9_after_21 : decode cX9_after 21 = .ok (.getfield 314, 3) := by decide +kernel
theorem dX9_after_24 : decode cX9_after 24 = .ok (.getfield 304, 3) := by decide +kernel
theorem dX9_after_27 : decode cX9_after 27 = .ok (.if_icmp .ge 40, 3) := by decide +kernel
theorem dX9_after_30 : decode cX9_after 30 = .ok (.aload_n 0, 1) := by decide +kernel
theorem dX9_after_31 : decode cX9_after 31 = .ok (.getfield 45, 3) := by decide +kernel
theorem dX9_after_34 : decode cX9_after 34 = .ok (.aload_n 0, 1) := by decide +kernel
theorem dX9_after_35 : decode cX9_after 35 = .ok (.getfield 12, 3) := by decide +kernel
theorem dX9_after_38 : decode cX9_after 38 = .ok (.getfield 314, 3) := by decide +kernel
theorem dX9_after_41 : decode cX9_after 41 = .ok (.getfield 306, 3) := by decide +kernel
theorem dX9_after_44 : decode cX9_after 44 = .ok (.iload_n 2, 1) := by decide +kernel
theorem dX9_after_45 : decode cX9_after 45 = .ok (.iaload, 1) := by decide +kernel
theorem dX9_after_46 : decode cX9_after 46 = .ok (.aload_n 0, 1) := by decide +kernel
theorem dX9_after_47 : decode cX9_after 47 = .ok (.getfield 12, 3) := by decide +kernel
theorem dX9_after_50 : decode cX9_after 50 = .ok (.getfield 314, 3) := by decide +kernel
theorem dX9_after_53 : decode cX9_after 53 = .ok (.getfield 309, 3) := by decide +kernel
theorem dX9_after_56 : decode cX9_after 56 = .ok (.iload_n 2, 1) := by decide +kernel
theorem dX9_after_57 : decode cX9_after 57 = .ok (.iaload, 1) := by decide +kernel
theorem dX9_after_58 : decode cX9_after 58 = .ok (.invokevirtual 317, 3) := by decide +kernel
theorem dX9_after_61 : decode cX9_after 61 = .ok (.iinc 2 1, 3) := by decide +kernel
theorem dX9_after_64 : decode cX9_after 64 = .ok (.goto (-48), 3) := by decide +kernel
theorem dX9_after_67 : decode cX9_after 67 = .ok (.iload_n 1, 1) := by decide +kernel
theorem dX9_after_68 : decode cX9_after 68 = .ok (.tableswitch 68 0 2 #[28, 40, 49], 28) := by decide +kernel
theorem dX9_after_96 : decode cX9_after 96 = .ok (.aload_n 0, 1) := by decide +kernel
theorem dX9_after_97 : decode cX9_after 97 = .ok (.getfield 45, 3) := by decide +kernel
theorem dX9_after_100 : decode cX9_after 100 = .ok (.invokevirtual 240, 3) := by decide +kernel
theorem dX9_after_103 : decode cX9_after 103 = .ok (.invokestatic 122, 3) := by decide +kernel
theorem dX9_after_106 : decode cX9_after 106 = .ok (.i2l, 1) := by decide +kernel
theorem dX9_after_107 : decode cX9_after 107 = .ok (.lreturn, 1) := by decide +kernel
theorem dX9_after_108 : decode cX9_after 108 = .ok (.aload_n 0, 1) := by decide +kernel
theorem dX9_after_109 : decode cX9_after 109 = .ok (.getfield 45, 3) := by decide +kernel
theorem dX9_after_112 : decode cX9_after 112 = .ok (.invokevirtual 244, 3) := by decide +kernel
theorem dX9_after_115 : decode cX9_after 115 = .ok (.i2l, 1) := by decide +kernel
theorem dX9_after_116 : decode cX9_after 116 = .ok (.lreturn, 1) := by decide +kernel
theorem dX9_after_117 : decode cX9_after 117 = .ok (.aload_n 0, 1) := by decide +kernel
theorem dX9_after_118 : decode cX9_after 118 = .ok (.getfield 45, 3) := by decide +kernel
theorem dX9_after_121 : decode cX9_after 121 = .ok (.iconst 0, 1) := by decide +kernel
theorem dX9_after_122 : decode cX9_after 122 = .ok (.invokevirtual 320, 3) := by decide +kernel
theorem dX9_after_125 : decode cX9_after 125 = .ok (.aload_n 0, 1) := by decide +kernel
theorem dX9_after_126 : decode cX9_after 126 = .ok (.getfield 45, 3) := by decide +kernel
theorem dX9_after_129 : decode cX9_after 129 = .ok (.iconst 1, 1) := by decide +kernel
theorem dX9_after_130 : decode cX9_after 130 = .ok (.invokevirtual 320, 3) := by decide +kernel
theorem dX9_after_133 : decode cX9_after 133 = .ok (.isub, 1) := by decide +kernel
theorem dX9_after_134 : decode cX9_after 134 = .ok (.i2l, 1) := by decide +kernel
theorem dX9_after_135 : decode cX9_after 135 = .ok (.lreturn, 1) := by decide +kernel
theorem dX9_after_136 : decode cX9_after 136 = .ok (.ldc2_w 190, 3) := by decide +kernel
theorem dX9_after_139 : decode cX9_after 139 = .ok (.lreturn, 1) := by decide +kernel
theorem dX9_book_0 : decode cX9_book 0 = .ok (.aload_n 0, 1) := by decide +kernel
theorem dX9_book_1 : decode cX9_book 1 = .ok (.aload_n 0, 1) := by decide +kernel
theorem dX9_book_2 : decode cX9_book 2 = .ok (.getfield 12, 3) := by decide +kernel
theorem dX9_book_5 : decode cX9_book 5 = .ok (.getfield 323, 3) := by decide +kernel
theorem dX9_book_8 : decode cX9_book 8 = .ok (.iload_n 1, 1) := by decide +kernel
theorem dX9_book_9 : decode cX9_book 9 = .ok (.iload_n 2, 1) := by decide +kernel
theorem dX9_book_10 : decode cX9_book 10 = .ok (.iload_n 3, 1) := by decide +kernel
theorem dX9_book_11 : decode cX9_book 11 = .ok (.invokevirtual 284, 3) := by decide +kernel
theorem dX9_book_14 : decode cX9_book 14 = .ok (.ireturn, 1) := by decide +kernel
theorem dX9_looked_0 : decode cX9_looked 0 = .ok (.aload_n 0, 1) := by decide +kernel
theorem dX9_looked_1 : decode cX9_looked 1 = .ok (.getfield 38, 3) := by decide +kernel
theorem dX9_looked_4 : decode cX9_looked 4 = .ok (.aload_n 0, 1) := by decide +kernel
theorem dX9_looked_5 : decode cX9_looked 5 = .ok (.getfield 12, 3) := by decide +kernel
theorem dX9_looked_8 : decode cX9_looked 8 = .ok (.getfield 83, 3) := by decide +kernel
theorem dX9_looked_11 : decode cX9_looked 11 = .ok (.aload_n 0, 1) := by decide +kernel
theorem dX9_looked_12 : decode cX9_looked 12 = .ok (.getfield 12, 3) := by decide +kernel
theorem dX9_looked_15 : decode cX9_looked 15 = .ok (.getfield 102, 3) := by decide +kernel
theorem dX9_looked_18 : decode cX9_looked 18 = .ok (.invokevirtual 250, 3) := by decide +kernel
theorem dX9_looked_21 : decode cX9_looked 21 = .ok (.ifCond .ne 6, 3) := by decide +kernel
theorem dX9_looked_24 : decode cX9_looked 24 = .ok (.bipush (-6), 2) := by decide +kernel
theorem dX9_looked_26 : decode cX9_looked 26 = .ok (.ireturn, 1) := by decide +kernel
theorem dX9_looked_27 : decode cX9_looked 27 = .ok (.aload_n 0, 1) := by decide +kernel
theorem dX9_looked_28 : decode cX9_looked 28 = .ok (.aload_n 0, 1) := by decide +kernel
theorem dX9_looked_29 : decode cX9_looked 29 = .ok (.getfield 12, 3) := by decide +kernel
theorem dX9_looked_32 : decode cX9_looked 32 = .ok (.getfield 323, 3) := by decide +kernel
theorem dX9_looked_35 : decode cX9_looked 35 = .ok (.invokevirtual 298, 3) := by decide +kernel
theorem dX9_looked_38 : decode cX9_looked 38 = .ok (.ireturn, 1) := by decide +kernel
theorem dX9_judge_0 : decode cX9_judge 0 = .ok (.aload_n 0, 1) := by decide +kernel
theorem dX9_judge_1 : decode cX9_judge 1 = .ok (.getfield 31, 3) := by decide +kernel
theorem dX9_judge_4 : decode cX9_judge 4 = .ok (.iload_n 1, 1) := by decide +kernel
theorem dX9_judge_5 : decode cX9_judge 5 = .ok (.invokevirtual 326, 3) := by decide +kernel
theorem dX9_judge_8 : decode cX9_judge 8 = .ok (.ifCond .ne 5, 3) := by decide +kernel
theorem dX9_judge_11 : decode cX9_judge 11 = .ok (.iconst (-1), 1) := by decide +kernel
theorem dX9_judge_12 : decode cX9_judge 12 = .ok (.ireturn, 1) := by decide +kernel
theorem dX9_judge_13 : decode cX9_judge 13 = .ok (.aload_n 0, 1) := by decide +kernel
theorem dX9_judge_14 : decode cX9_judge 14 = .ok (.getfield 38, 3) := by decide +kernel
theorem dX9_judge_17 : decode cX9_judge 17 = .ok (.aload_n 0, 1) := by decide +kernel
theorem dX9_judge_18 : decode cX9_judge 18 = .ok (.getfield 12, 3) := by decide +kernel
theorem dX9_judge_21 : decode cX9_judge 21 = .ok (.getfield 83, 3) := by decide +kernel
theorem dX9_judge_24 : decode cX9_judge 24 = .ok (.aload_n 0, 1) := by decide +kernel
theorem dX9_judge_25 : decode cX9_judge 25 = .ok (.getfield 12, 3) := by decide +kernel
theorem dX9_judge_28 : decode cX9_judge 28 = .ok (.getfield 102, 3) := by decide +kernel
theorem dX9_judge_31 : decode cX9_judge 31 = .ok (.invokevirtual 250, 3) := by decide +kernel
theorem dX9_judge_34 : decode cX9_judge 34 = .ok (.ifCond .ne 6, 3) := by decide +kernel
theorem dX9_judge_37 : decode cX9_judge 37 = .ok (.bipush (-6), 2) := by decide +kernel
theorem dX9_judge_39 : decode cX9_judge 39 = .ok (.ireturn, 1) := by decide +kernel
theorem dX9_judge_40 : decode cX9_judge 40 = .ok (.aload_n 0, 1) := by decide +kernel
theorem dX9_judge_41 : decode cX9_judge 41 = .ok (.getfield 31, 3) := by decide +kernel
theorem dX9_judge_44 : decode cX9_judge 44 = .ok (.iload_n 1, 1) := by decide +kernel
theorem dX9_judge_45 : decode cX9_judge 45 = .ok (.invokevirtual 330, 3) := by decide +kernel
theorem dX9_judge_48 : decode cX9_judge 48 = .ok (.ifCond .ne 6, 3) := by decide +kernel
theorem dX9_judge_51 : decode cX9_judge 51 = .ok (.bipush 100, 2) := by decide +kernel
theorem dX9_judge_53 : decode cX9_judge 53 = .ok (.ireturn, 1) := by decide +kernel
theorem dX9_judge_54 : decode cX9_judge 54 = .ok (.aload_n 0, 1) := by decide +kernel
theorem dX9_judge_55 : decode cX9_judge 55 = .ok (.getfield 31, 3) := by decide +kernel
theorem dX9_judge_58 : decode cX9_judge 58 = .ok (.iload_n 1, 1) := by decide +kernel
theorem dX9_judge_59 : decode cX9_judge 59 = .ok (.invokevirtual 333, 3) := by decide +kernel
theorem dX9_judge_62 : decode cX9_judge 62 = .ok (.ifCond .ne 6, 3) := by decide +kernel
theorem dX9_judge_65 : decode cX9_judge 65 = .ok (.bipush (-12), 2) := by decide +kernel
theorem dX9_judge_67 : decode cX9_judge 67 = .ok (.ireturn, 1) := by decide +kernel
theorem dX9_judge_68 : decode cX9_judge 68 = .ok (.iconst 0, 1) := by decide +kernel
theorem dX9_judge_69 : decode cX9_judge 69 = .ok (.istore_n 3, 1) := by decide +kernel
theorem dX9_judge_70 : decode cX9_judge 70 = .ok (.iconst 0, 1) := by decide +kernel
theorem dX9_judge_71 : decode cX9_judge 71 = .ok (.istore 4, 2) := by decide +kernel
theorem dX9_judge_73 : decode cX9_judge 73 = .ok (.iload 4, 2) := by decide +kernel
theorem dX9_judge_75 : decode cX9_judge 75 = .ok (.aload_n 0, 1) := by decide +kernel
theorem dX9_judge_76 : decode cX9_judge 76 = .ok (.getfield 12, 3) := by decide +kernel
theorem dX9_judge_79 : decode cX9_judge 79 = .ok (.getfield 83, 3) := by decide +kernel
theorem dX9_judge_82 : decode cX9_judge 82 = .ok (.getfield 234, 3) := by decide +kernel
theorem dX9_judge_85 : decode cX9_judge 85 = .ok (.if_icmp .ge 92, 3) := by decide +kernel
theorem dX9_judge_88 : decode cX9_judge 88 = .ok (.iconst 0, 1) := by decide +kernel
theorem dX9_judge_89 : decode cX9_judge 89 = .ok (.istore 5, 2) := by decide +kernel
theorem dX9_judge_91 : decode cX9_judge 91 = .ok (.iload 5, 2) := by decide +kernel
theorem dX9_judge_93 : decode cX9_judge 93 = .ok (.aload_n 0, 1) := by decide +kernel
theorem dX9_judge_94 : decode cX9_judge 94 = .ok (.getfield 12, 3) := by decide +kernel
theorem dX9_judge_97 : decode cX9_judge 97 = .ok (.getfield 83, 3) := by decide +kernel
theorem dX9_judge_100 : decode cX9_judge 100 = .ok (.getfield 237, 3) := by decide +kernel
theorem dX9_judge_103 : decode cX9_judge 103 = .ok (.if_icmp .ge 68, 3) := by decide +kernel
theorem dX9_judge_106 : decode cX9_judge 106 = .ok (.iload_n 2, 1) := by decide +kernel
theorem dX9_judge_107 : decode cX9_judge 107 = .ok (.ifCond .lt 17, 3) := by decide +kernel
theorem dX9_judge_110 : decode cX9_judge 110 = .ok (.iload_n 2, 1) := by decide +kernel
theorem dX9_judge_111 : decode cX9_judge 111 = .ok (.aload_n 0, 1) := by decide +kernel
theorem dX9_judge_112 : decode cX9_judge 112 = .ok (.getfield 31, 3) := by decide +kernel
theorem dX9_judge_115 : decode cX9_judge 115 = .ok (.iload_n 1, 1) := by decide +kernel
theorem dX9_judge_116 : decode cX9_judge 116 = .ok (.invokevirtual 336, 3) := by decide +kernel
theorem dX9_judge_119 : decode cX9_judge 119 = .ok (.iload_n 3, 1) := by decide +kernel
theorem dX9_judge_120 : decode cX9_judge 120 = .ok (.isub, 1) := by decide +kernel
theorem dX9_judge_121 : decode cX9_judge 121 = .ok (.if_icmp .lt 8, 3) := by decide +kernel
theorem dX9_judge_124 : decode cX9_judge 124 = .ok (.bipush 100, 2) := by decide +kernel
theorem dX9_judge_126 : decode cX9_judge 126 = .ok (.iload_n 3, 1) := by decide +kernel
theorem dX9_judge_127 : decode cX9_judge 127 = .ok (.iadd, 1) := by decide +kernel
theorem dX9_judge_128 : decode cX9_judge 128 = .ok (.ireturn, 1) := by decide +kernel
theorem dX9_judge_129 : decode cX9_judge 129 = .ok (.aload_n 0, 1) := by decide +kernel
theorem dX9_judge_130 : decode cX9_judge 130 = .ok (.getfield 31, 3) := by decide +kernel
theorem dX9_judge_133 : decode cX9_judge 133 = .ok (.iload_n 1, 1) := by decide +kernel
theorem dX9_judge_134 : decode cX9_judge 134 = .ok (.iload_n 2, 1) := by decide +kernel
theorem dX9_judge_135 : decode cX9_judge 135 = .ok (.iload_n 3, 1) := by decide +kernel
theorem dX9_judge_136 : decode cX9_judge 136 = .ok (.iadd, 1) := by decide +kernel
theorem dX9_judge_137 : decode cX9_judge 137 = .ok (.invokevirtual 339, 3) := by decide +kernel
theorem dX9_judge_140 : decode cX9_judge 140 = .ok (.aload_n 0, 1) := by decide +kernel
theorem dX9_judge_141 : decode cX9_judge 141 = .ok (.getfield 38, 3) := by decide +kernel
theorem dX9_judge_144 : decode cX9_judge 144 = .ok (.getfield 253, 3) := by decide +kernel
theorem dX9_judge_147 : decode cX9_judge 147 = .ok (.iload 4, 2) := by decide +kernel
theorem dX9_judge_149 : decode cX9_judge 149 = .ok (.iload 5, 2) := by decide +kernel
theorem dX9_judge_151 : decode cX9_judge 151 = .ok (.invokestatic 98, 3) := by decide +kernel
theorem dX9_judge_154 : decode cX9_judge 154 = .ok (.iaload, 1) := by decide +kernel
theorem dX9_judge_155 : decode cX9_judge 155 = .ok (.i2l, 1) := by decide +kernel
theorem dX9_judge_156 : decode cX9_judge 156 = .ok (.lcmp, 1) := by decide +kernel
theorem dX9_judge_157 : decode cX9_judge 157 = .ok (.ifCond .eq 5, 3) := by decide +kernel
theorem dX9_judge_160 : decode cX9_judge 160 = .ok (.iload_n 3, 1) := by decide +kernel
theorem dX9_judge_161 : decode cX9_judge 161 = .ok (.ireturn, 1) := by decide +kernel
theorem dX9_judge_162 : decode cX9_judge 162 = .ok (.iinc 3 1, 3) := by decide +kernel
theorem dX9_judge_165 : decode cX9_judge 165 = .ok (.iinc 5 1, 3) := by decide +kernel
theorem dX9_judge_168 : decode cX9_judge 168 = .ok (.goto (-77), 3) := by decide +kernel
theorem dX9_judge_171 : decode cX9_judge 171 = .ok (.iinc 4 1, 3) := by decide +kernel
theorem dX9_judge_174 : decode cX9_judge 174 = .ok (.goto (-101), 3) := by decide +kernel
theorem dX9_judge_177 : decode cX9_judge 177 = .ok (.bipush (-5), 2) := by decide +kernel
theorem dX9_judge_179 : decode cX9_judge 179 = .ok (.ireturn, 1) := by decide +kernel
theorem dX9_image_0 : decode cX9_image 0 = .ok (.aload_n 0, 1) := by decide +kernel
theorem dX9_image_1 : decode cX9_image 1 = .ok (.getfield 18, 3) := by decide +kernel
theorem dX9_image_4 : decode cX9_image 4 = .ok (.aload_n 0, 1) := by decide +kernel
theorem dX9_image_5 : decode cX9_image 5 = .ok (.getfield 12, 3) := by decide +kernel
theorem dX9_image_8 : decode cX9_image 8 = .ok (.invokevirtual 343, 3) := by decide +kernel
theorem dX9_image_11 : decode cX9_image 11 = .ok (.aload_n 0, 1) := by decide +kernel
theorem dX9_image_12 : decode cX9_image 12 = .ok (.iconst 1, 1) := by decide +kernel
theorem dX9_image_13 : decode cX9_image 13 = .ok (.putfield 346, 3) := by decide +kernel
theorem dX9_image_16 : decode cX9_image 16 = .ok (.aload_n 0, 1) := by decide +kernel
theorem dX9_image_17 : decode cX9_image 17 = .ok (.getfield 12, 3) := by decide +kernel
theorem dX9_image_20 : decode cX9_image 20 = .ok (.getfield 83, 3) := by decide +kernel
theorem dX9_image_23 : decode cX9_image 23 = .ok (.invokevirtual 86, 3) := by decide +kernel
theorem dX9_image_26 : decode cX9_image 26 = .ok (.ireturn, 1) := by decide +kernel
theorem dX9_undo_0 : decode cX9_undo 0 = .ok (.aload_n 0, 1) := by decide +kernel
theorem dX9_undo_1 : decode cX9_undo 1 = .ok (.getfield 346, 3) := by decide +kernel
theorem dX9_undo_4 : decode cX9_undo 4 = .ok (.ifCond .ne 6, 3) := by decide +kernel
theorem dX9_undo_7 : decode cX9_undo 7 = .ok (.bipush (-3), 2) := by decide +kernel
theorem dX9_undo_9 : decode cX9_undo 9 = .ok (.ireturn, 1) := by decide +kernel
theorem dX9_undo_10 : decode cX9_undo 10 = .ok (.aload_n 0, 1) := by decide +kernel
theorem dX9_undo_11 : decode cX9_undo 11 = .ok (.getfield 12, 3) := by decide +kernel
theorem dX9_undo_14 : decode cX9_undo 14 = .ok (.aload_n 0, 1) := by decide +kernel
theorem dX9_undo_15 : decode cX9_undo 15 = .ok (.getfield 18, 3) := by decide +kernel
theorem dX9_undo_18 : decode cX9_undo 18 = .ok (.invokevirtual 343, 3) := by decide +kernel
theorem dX9_undo_21 : decode cX9_undo 21 = .ok (.aload_n 0, 1) := by decide +kernel
theorem dX9_undo_22 : decode cX9_undo 22 = .ok (.getfield 12, 3) := by decide +kernel
theorem dX9_undo_25 : decode cX9_undo 25 = .ok (.getfield 83, 3) := by decide +kernel
theorem dX9_undo_28 : decode cX9_undo 28 = .ok (.invokevirtual 86, 3) := by decide +kernel
theorem dX9_undo_31 : decode cX9_undo 31 = .ok (.ireturn, 1) := by decide +kernel
theorem dX9_count_0 : decode cX9_count 0 = .ok (.iload_n 1, 1) := by decide +kernel
theorem dX9_count_1 : decode cX9_count 1 = .ok (.tableswitch 72 0 3 #[31, 42, 53, 64], 31) := by decide +kernel
theorem dX9_count_32 : decode cX9_count 32 = .ok (.aload_n 0, 1) := by decide +kernel
theorem dX9_count_33 : decode cX9_count 33 = .ok (.getfield 12, 3) := by decide +kernel
theorem dX9_count_36 : decode cX9_count 36 = .ok (.getfield 280, 3) := by decide +kernel
theorem dX9_count_39 : decode cX9_count 39 = .ok (.getfield 304, 3) := by decide +kernel
theorem dX9_count_42 : decode cX9_count 42 = .ok (.ireturn, 1) := by decide +kernel
theorem dX9_count_43 : decode cX9_count 43 = .ok (.aload_n 0, 1) := by decide +kernel
theorem dX9_count_44 : decode cX9_count 44 = .ok (.getfield 12, 3) := by decide +kernel
theorem dX9_count_47 : decode cX9_count 47 = .ok (.getfield 314, 3) := by decide +kernel
theorem dX9_count_50 : decode cX9_count 50 = .ok (.getfield 304, 3) := by decide +kernel
theorem dX9_count_53 : decode cX9_count 53 = .ok (.ireturn, 1) := by decide +kernel
theorem dX9_count_54 : decode cX9_count 54 = .ok (.aload_n 0, 1) := by decide +kernel
theorem dX9_count_55 : decode cX9_count 55 = .ok (.getfield 12, 3) := by decide +kernel
theorem dX9_count_58 : decode cX9_count 58 = .ok (.getfield 323, 3) := by decide +kernel
theorem dX9_count_61 : decode cX9_count 61 = .ok (.getfield 304, 3) := by decide +kernel
theorem dX9_count_64 : decode cX9_count 64 = .ok (.ireturn, 1) := by decide +kernel
theorem dX9_count_65 : decode cX9_count 65 = .ok (.aload_n 0, 1) := by decide +kernel
theorem dX9_count_66 : decode cX9_count 66 = .ok (.getfield 24, 3) := by decide +kernel
theorem dX9_count_69 : decode cX9_count 69 = .ok (.getfield 136, 3) := by decide +kernel
theorem dX9_count_72 : decode cX9_count 72 = .ok (.ireturn, 1) := by decide +kernel
theorem dX9_count_73 : decode cX9_count 73 = .ok (.bipush (-2), 2) := by decide +kernel
theorem dX9_count_75 : decode cX9_count 75 = .ok (.ireturn, 1) := by decide +kernel
theorem dX9_tape_0 : decode cX9_tape 0 = .ok (.aload_n 0, 1) := by decide +kernel
theorem dX9_tape_1 : decode cX9_tape 1 = .ok (.getfield 31, 3) := by decide +kernel
theorem dX9_tape_4 : decode cX9_tape 4 = .ok (.iload_n 1, 1) := by decide +kernel
theorem dX9_tape_5 : decode cX9_tape 5 = .ok (.invokevirtual 326, 3) := by decide +kernel
theorem dX9_tape_8 : decode cX9_tape 8 = .ok (.ifCond .ne 5, 3) := by decide +kernel
theorem dX9_tape_11 : decode cX9_tape 11 = .ok (.iconst (-1), 1) := by decide +kernel
theorem dX9_tape_12 : decode cX9_tape 12 = .ok (.ireturn, 1) := by decide +kernel
theorem dX9_tape_13 : decode cX9_tape 13 = .ok (.iload_n 2, 1) := by decide +kernel
theorem dX9_tape_14 : decode cX9_tape 14 = .ok (.iconst (-1), 1) := by decide +kernel
theorem dX9_tape_15 : decode cX9_tape 15 = .ok (.if_icmp .lt 8, 3) := by decide +kernel
theorem dX9_tape_18 : decode cX9_tape 18 = .ok (.iload_n 2, 1) := by decide +kernel
theorem dX9_tape_19 : decode cX9_tape 19 = .ok (.iconst 4, 1) := by decide +kernel
theorem dX9_tape_20 : decode cX9_tape 20 = .ok (.if_icmp .le 6, 3) := by decide +kernel
theorem dX9_tape_23 : decode cX9_tape 23 = .ok (.bipush (-2), 2) := by decide +kernel
theorem dX9_tape_25 : decode cX9_tape 25 = .ok (.ireturn, 1) := by decide +kernel
theorem dX9_tape_26 : decode cX9_tape 26 = .ok (.iload_n 2, 1) := by decide +kernel
theorem dX9_tape_27 : decode cX9_tape 27 = .ok (.iconst (-1), 1) := by decide +kernel
theorem dX9_tape_28 : decode cX9_tape 28 = .ok (.if_icmp .ne 14, 3) := by decide +kernel
theorem dX9_tape_31 : decode cX9_tape 31 = .ok (.aload_n 0, 1) := by decide +kernel
theorem dX9_tape_32 : decode cX9_tape 32 = .ok (.getfield 31, 3) := by decide +kernel
theorem dX9_tape_35 : decode cX9_tape 35 = .ok (.iload_n 1, 1) := by decide +kernel
theorem dX9_tape_36 : decode cX9_tape 36 = .ok (.iload_n 2, 1) := by decide +kernel
theorem dX9_tape_37 : decode cX9_tape 37 = .ok (.iconst 0, 1) := by decide +kernel
theorem dX9_tape_38 : decode cX9_tape 38 = .ok (.invokevirtual 349, 3) := by decide +kernel
theorem dX9_tape_41 : decode cX9_tape 41 = .ok (.ireturn, 1) := by decide +kernel
theorem dX9_tape_42 : decode cX9_tape 42 = .ok (.iload_n 3, 1) := by decide +kernel
theorem dX9_tape_43 : decode cX9_tape 43 = .ok (.bipush 60, 2) := by decide +kernel
theorem dX9_tape_45 : decode cX9_tape 45 = .ok (.if_icmp .le 6, 3) := by decide +kernel
theorem dX9_tape_48 : decode cX9_tape 48 = .ok (.bipush (-2), 2) := by decide +kernel
theorem dX9_tape_50 : decode cX9_tape 50 = .ok (.ireturn, 1) := by decide +kernel
theorem dX9_tape_51 : decode cX9_tape 51 = .ok (.iload_n 3, 1) := by decide +kernel
theorem dX9_tape_52 : decode cX9_tape 52 = .ok (.ifCond .ge 6, 3) := by decide +kernel
theorem dX9_tape_55 : decode cX9_tape 55 = .ok (.bipush (-14), 2) := by decide +kernel
theorem dX9_tape_57 : decode cX9_tape 57 = .ok (.ireturn, 1) := by decide +kernel
theorem dX9_tape_58 : decode cX9_tape 58 = .ok (.aload_n 0, 1) := by decide +kernel
theorem dX9_tape_59 : decode cX9_tape 59 = .ok (.getfield 31, 3) := by decide +kernel
theorem dX9_tape_62 : decode cX9_tape 62 = .ok (.iload_n 1, 1) := by decide +kernel
theorem dX9_tape_63 : decode cX9_tape 63 = .ok (.iload_n 2, 1) := by decide +kernel
theorem dX9_tape_64 : decode cX9_tape 64 = .ok (.iload_n 3, 1) := by decide +kernel
theorem dX9_tape_65 : decode cX9_tape 65 = .ok (.invokevirtual 349, 3) := by decide +kernel
theorem dX9_tape_68 : decode cX9_tape 68 = .ok (.ireturn, 1) := by decide +kernel
theorem dX9_item_0 : decode cX9_item 0 = .ok (.aload_n 0, 1) := by decide +kernel
theorem dX9_item_1 : decode cX9_item 1 = .ok (.getfield 31, 3) := by decide +kernel
theorem dX9_item_4 : decode cX9_item 4 = .ok (.iload_n 1, 1) := by decide +kernel
theorem dX9_item_5 : decode cX9_item 5 = .ok (.invokevirtual 326, 3) := by decide +kernel
theorem dX9_item_8 : decode cX9_item 8 = .ok (.ifCond .ne 5, 3) := by decide +kernel
theorem dX9_item_11 : decode cX9_item 11 = .ok (.iconst (-1), 1) := by decide +kernel
theorem dX9_item_12 : decode cX9_item 12 = .ok (.ireturn, 1) := by decide +kernel
theorem dX9_item_13 : decode cX9_item 13 = .ok (.aload_n 0, 1) := by decide +kernel
theorem dX9_item_14 : decode cX9_item 14 = .ok (.getfield 31, 3) := by decide +kernel
theorem dX9_item_17 : decode cX9_item 17 = .ok (.iload_n 1, 1) := by decide +kernel
theorem dX9_item_18 : decode cX9_item 18 = .ok (.invokevirtual 330, 3) := by decide +kernel
theorem dX9_item_21 : decode cX9_item 21 = .ok (.ifCond .ne 6, 3) := by decide +kernel
theorem dX9_item_24 : decode cX9_item 24 = .ok (.bipush (-11), 2) := by decide +kernel
theorem dX9_item_26 : decode cX9_item 26 = .ok (.ireturn, 1) := by decide +kernel
theorem dX9_item_27 : decode cX9_item 27 = .ok (.aload_n 0, 1) := by decide +kernel
theorem dX9_item_28 : decode cX9_item 28 = .ok (.getfield 31, 3) := by decide +kernel
theorem dX9_item_31 : decode cX9_item 31 = .ok (.iload_n 1, 1) := by decide +kernel
theorem dX9_item_32 : decode cX9_item 32 = .ok (.iload_n 2, 1) := by decide +kernel
theorem dX9_item_33 : decode cX9_item 33 = .ok (.invokevirtual 351, 3) := by decide +kernel
theorem dX9_item_36 : decode cX9_item 36 = .ok (.ifCond .ne 6, 3) := by decide +kernel
theorem dX9_item_39 : decode cX9_item 39 = .ok (.bipush (-13), 2) := by decide +kernel
theorem dX9_item_41 : decode cX9_item 41 = .ok (.ireturn, 1) := by decide +kernel
theorem dX9_item_42 : decode cX9_item 42 = .ok (.aload_n 0, 1) := by decide +kernel
theorem dX9_item_43 : decode cX9_item 43 = .ok (.getfield 31, 3) := by decide +kernel
theorem dX9_item_46 : decode cX9_item 46 = .ok (.iload_n 1, 1) := by decide +kernel
theorem dX9_item_47 : decode cX9_item 47 = .ok (.iload_n 2, 1) := by decide +kernel
theorem dX9_item_48 : decode cX9_item 48 = .ok (.lload_n 3, 1) := by decide +kernel
theorem dX9_item_49 : decode cX9_item 49 = .ok (.invokevirtual 354, 3) := by decide +kernel
theorem dX9_item_52 : decode cX9_item 52 = .ok (.ireturn, 1) := by decide +kernel
theorem dX9_peek_0 : decode cX9_peek 0 = .ok (.aload_n 0, 1) := by decide +kernel
theorem dX9_peek_1 : decode cX9_peek 1 = .ok (.getfield 31, 3) := by decide +kernel
theorem dX9_peek_4 : decode cX9_peek 4 = .ok (.iload_n 1, 1) := by decide +kernel
theorem dX9_peek_5 : decode cX9_peek 5 = .ok (.invokevirtual 326, 3) := by decide +kernel
theorem dX9_peek_8 : decode cX9_peek 8 = .ok (.ifCond .eq 15, 3) := by decide +kernel
theorem dX9_peek_11 : decode cX9_peek 11 = .ok (.aload_n 0, 1) := by decide +kernel
theorem dX9_peek_12 : decode cX9_peek 12 = .ok (.getfield 31, 3) := by decide +kernel
theorem dX9_peek_15 : decode cX9_peek 15 = .ok (.iload_n 1, 1) := by decide +kernel
theorem dX9_peek_16 : decode cX9_peek 16 = .ok (.iload_n 2, 1) := by decide +kernel
theorem dX9_peek_17 : decode cX9_peek 17 = .ok (.invokevirtual 351, 3) := by decide +kernel
theorem dX9_peek_20 : decode cX9_peek 20 = .ok (.ifCond .ne 7, 3) := by decide +kernel
theorem dX9_peek_23 : decode cX9_peek 23 = .ok (.ldc2_w 190, 3) := by decide +kernel
theorem dX9_peek_26 : decode cX9_peek 26 = .ok (.lreturn, 1) := by decide +kernel
theorem dX9_peek_27 : decode cX9_peek 27 = .ok (.aload_n 0, 1) := by decide +kernel
theorem dX9_peek_28 : decode cX9_peek 28 = .ok (.getfield 31, 3) := by decide +kernel
theorem dX9_peek_31 : decode cX9_peek 31 = .ok (.iload_n 1, 1) := by decide +kernel
theorem dX9_peek_32 : decode cX9_peek 32 = .ok (.iload_n 2, 1) := by decide +kernel
theorem dX9_peek_33 : decode cX9_peek 33 = .ok (.invokevirtual 339, 3) := by decide +kernel
theorem dX9_peek_36 : decode cX9_peek 36 = .ok (.lreturn, 1) := by decide +kernel
theorem dX9_shift_0 : decode cX9_shift 0 = .ok (.aload_n 0, 1) := by decide +kernel
theorem dX9_shift_1 : decode cX9_shift 1 = .ok (.getfield 31, 3) := by decide +kernel
theorem dX9_shift_4 : decode cX9_shift 4 = .ok (.iload_n 1, 1) := by decide +kernel
theorem dX9_shift_5 : decode cX9_shift 5 = .ok (.invokevirtual 326, 3) := by decide +kernel
theorem dX9_shift_8 : decode cX9_shift 8 = .ok (.ifCond .eq 14, 3) := by decide +kernel
theorem dX9_shift_11 : decode cX9_shift 11 = .ok (.aload_n 0, 1) := by decide +kernel
theorem dX9_shift_12 : decode cX9_shift 12 = .ok (.getfield 31, 3) := by decide +kernel
theorem dX9_shift_15 : decode cX9_shift 15 = .ok (.iload_n 3, 1) := by decide +kernel
theorem dX9_shift_16 : decode cX9_shift 16 = .ok (.invokevirtual 326, 3) := by decide +kernel
theorem dX9_shift_19 : decode cX9_shift 19 = .ok (.ifCond .ne 5, 3) := by decide +kernel
theorem dX9_shift_22 : decode cX9_shift 22 = .ok (.iconst (-1), 1) := by decide +kernel
theorem dX9_shift_23 : decode cX9_shift 23 = .ok (.ireturn, 1) := by decide +kernel
theorem dX9_shift_24 : decode cX9_shift 24 = .ok (.aload_n 0, 1) := by decide +kernel
theorem dX9_shift_25 : decode cX9_shift 25 = .ok (.getfield 31, 3) := by decide +kernel
theorem dX9_shift_28 : decode cX9_shift 28 = .ok (.iload_n 1, 1) := by decide +kernel
theorem dX9_shift_29 : decode cX9_shift 29 = .ok (.invokevirtual 330, 3) := by decide +kernel
theorem dX9_shift_32 : decode cX9_shift 32 = .ok (.ifCond .eq 14, 3) := by decide +kernel
theorem dX9_shift_35 : decode cX9_shift 35 = .ok (.aload_n 0, 1) := by decide +kernel
theorem dX9_shift_36 : decode cX9_shift 36 = .ok (.getfield 31, 3) := by decide +kernel
theorem dX9_shift_39 : decode cX9_shift 39 = .ok (.iload_n 3, 1) := by decide +kernel
theorem dX9_shift_40 : decode cX9_shift 40 = .ok (.invokevirtual 330, 3) := by decide +kernel
theorem dX9_shift_43 : decode cX9_shift 43 = .ok (.ifCond .ne 6, 3) := by decide +kernel
theorem dX9_shift_46 : decode cX9_shift 46 = .ok (.bipush (-11), 2) := by decide +kernel
theorem dX9_shift_48 : decode cX9_shift 48 = .ok (.ireturn, 1) := by decide +kernel
theorem dX9_shift_49 : decode cX9_shift 49 = .ok (.aload_n 0, 1) := by decide +kernel
theorem dX9_shift_50 : decode cX9_shift 50 = .ok (.getfield 31, 3) := by decide +kernel
theorem dX9_shift_53 : decode cX9_shift 53 = .ok (.iload_n 1, 1) := by decide +kernel
theorem dX9_shift_54 : decode cX9_shift 54 = .ok (.iload_n 3, 1) := by decide +kernel
theorem dX9_shift_55 : decode cX9_shift 55 = .ok (.invokevirtual 358, 3) := by decide +kernel
theorem dX9_shift_58 : decode cX9_shift 58 = .ok (.ifCond .ne 6, 3) := by decide +kernel
theorem dX9_shift_61 : decode cX9_shift 61 = .ok (.bipush (-12), 2) := by decide +kernel
theorem dX9_shift_63 : decode cX9_shift 63 = .ok (.ireturn, 1) := by decide +kernel
theorem dX9_shift_64 : decode cX9_shift 64 = .ok (.aload_n 0, 1) := by decide +kernel
theorem dX9_shift_65 : decode cX9_shift 65 = .ok (.getfield 31, 3) := by decide +kernel
theorem dX9_shift_68 : decode cX9_shift 68 = .ok (.iload_n 1, 1) := by decide +kernel
theorem dX9_shift_69 : decode cX9_shift 69 = .ok (.iload_n 2, 1) := by decide +kernel
theorem dX9_shift_70 : decode cX9_shift 70 = .ok (.iload 5, 2) := by decide +kernel
theorem dX9_shift_72 : decode cX9_shift 72 = .ok (.invokevirtual 361, 3) := by decide +kernel
theorem dX9_shift_75 : decode cX9_shift 75 = .ok (.ifCond .eq 18, 3) := by decide +kernel
theorem dX9_shift_78 : decode cX9_shift 78 = .ok (.aload_n 0, 1) := by decide +kernel
theorem dX9_shift_79 : decode cX9_shift 79 = .ok (.getfield 31, 3) := by decide +kernel
theorem dX9_shift_82 : decode cX9_shift 82 = .ok (.iload_n 3, 1) := by decide +kernel
theorem dX9_shift_83 : decode cX9_shift 83 = .ok (.iload 4, 2) := by decide +kernel
theorem dX9_shift_85 : decode cX9_shift 85 = .ok (.iload 5, 2) := by decide +kernel
theorem dX9_shift_87 : decode cX9_shift 87 = .ok (.invokevirtual 361, 3) := by decide +kernel
theorem dX9_shift_90 : decode cX9_shift 90 = .ok (.ifCond .ne 6, 3) := by decide +kernel
theorem dX9_shift_93 : decode cX9_shift 93 = .ok (.bipush (-13), 2) := by decide +kernel
theorem dX9_shift_95 : decode cX9_shift 95 = .ok (.ireturn, 1) := by decide +kernel
theorem dX9_shift_96 : decode cX9_shift 96 = .ok (.aload_n 0, 1) := by decide +kernel
theorem dX9_shift_97 : decode cX9_shift 97 = .ok (.getfield 31, 3) := by decide +kernel
theorem dX9_shift_100 : decode cX9_shift 100 = .ok (.iload_n 1, 1) := by decide +kernel
theorem dX9_shift_101 : decode cX9_shift 101 = .ok (.iload_n 2, 1) := by decide +kernel
theorem dX9_shift_102 : decode cX9_shift 102 = .ok (.iload_n 3, 1) := by decide +kernel
theorem dX9_shift_103 : decode cX9_shift 103 = .ok (.iload 4, 2) := by decide +kernel
theorem dX9_shift_105 : decode cX9_shift 105 = .ok (.iload 5, 2) := by decide +kernel
theorem dX9_shift_107 : decode cX9_shift 107 = .ok (.invokevirtual 365, 3) := by decide +kernel
theorem dX9_shift_110 : decode cX9_shift 110 = .ok (.ireturn, 1) := by decide +kernel
theorem dX9_place_0 : decode cX9_place 0 = .ok (.iconst 3, 1) := by decide +kernel
theorem dX9_place_1 : decode cX9_place 1 = .ok (.iload_n 0, 1) := by decide +kernel
theorem dX9_place_2 : decode cX9_place 2 = .ok (.imul, 1) := by decide +kernel
theorem dX9_place_3 : decode cX9_place 3 = .ok (.iload_n 1, 1) := by decide +kernel
theorem dX9_place_4 : decode cX9_place 4 = .ok (.iadd, 1) := by decide +kernel
theorem dX9_place_5 : decode cX9_place 5 = .ok (.ireturn, 1) := by decide +kernel
theorem dX9_oneIf_0 : decode cX9_oneIf 0 = .ok (.iload_n 0, 1) := by decide +kernel
theorem dX9_oneIf_1 : decode cX9_oneIf 1 = .ok (.ifCond .eq 7, 3) := by decide +kernel
theorem dX9_oneIf_4 : decode cX9_oneIf 4 = .ok (.iconst 1, 1) := by decide +kernel
theorem dX9_oneIf_5 : decode cX9_oneIf 5 = .ok (.goto 4, 3) := by decide +kernel
theorem dX9_oneIf_8 : decode cX9_oneIf 8 = .ok (.iconst 0, 1) := by decide +kernel
theorem dX9_oneIf_9 : decode cX9_oneIf 9 = .ok (.ireturn, 1) := by decide +kernel
theorem dJ6_bitCount_0f7a4_0 : decode cJ6_bitCount_0f7a4 0 = .ok (.iload_n 0, 1) := by decide +kernel
theorem dJ6_bitCount_0f7a4_1 : decode cJ6_bitCount_0f7a4 1 = .ok (.iload_n 0, 1) := by decide +kernel
theorem dJ6_bitCount_0f7a4_2 : decode cJ6_bitCount_0f7a4 2 = .ok (.iconst 1, 1) := by decide +kernel
theorem dJ6_bitCount_0f7a4_3 : decode cJ6_bitCount_0f7a4 3 = .ok (.iushr, 1) := by decide +kernel
theorem dJ6_bitCount_0f7a4_4 : decode cJ6_bitCount_0f7a4 4 = .ok (.ldc_w 265, 3) := by decide +kernel
theorem dJ6_bitCount_0f7a4_7 : decode cJ6_bitCount_0f7a4 7 = .ok (.iand, 1) := by decide +kernel
theorem dJ6_bitCount_0f7a4_8 : decode cJ6_bitCount_0f7a4 8 = .ok (.isub, 1) := by decide +kernel
theorem dJ6_bitCount_0f7a4_9 : decode cJ6_bitCount_0f7a4 9 = .ok (.istore_n 0, 1) := by decide +kernel
theorem dJ6_bitCount_0f7a4_10 : decode cJ6_bitCount_0f7a4 10 = .ok (.iload_n 0, 1) := by decide +kernel
theorem dJ6_bitCount_0f7a4_11 : decode cJ6_bitCount_0f7a4 11 = .ok (.ldc_w 266, 3) := by decide +kernel
theorem dJ6_bitCount_0f7a4_14 : decode cJ6_bitCount_0f7a4 14 = .ok (.iand, 1) := by decide +kernel
theorem dJ6_bitCount_0f7a4_15 : decode cJ6_bitCount_0f7a4 15 = .ok (.iload_n 0, 1) := by decide +kernel
theorem dJ6_bitCount_0f7a4_16 : decode cJ6_bitCount_0f7a4 16 = .ok (.iconst 2, 1) := by decide +kernel
theorem dJ6_bitCount_0f7a4_17 : decode cJ6_bitCount_0f7a4 17 = .ok (.iushr, 1) := by decide +kernel
theorem dJ6_bitCount_0f7a4_18 : decode cJ6_bitCount_0f7a4 18 = .ok (.ldc_w 266, 3) := by decide +kernel
theorem dJ6_bitCount_0f7a4_21 : decode cJ6_bitCount_0f7a4 21 = .ok (.iand, 1) := by decide +kernel
theorem dJ6_bitCount_0f7a4_22 : decode cJ6_bitCount_0f7a4 22 = .ok (.iadd, 1) := by decide +kernel
theorem dJ6_bitCount_0f7a4_23 : decode cJ6_bitCount_0f7a4 23 = .ok (.istore_n 0, 1) := by decide +kernel
theorem dJ6_bitCount_0f7a4_24 : decode cJ6_bitCount_0f7a4 24 = .ok (.iload_n 0, 1) := by decide +kernel
theorem dJ6_bitCount_0f7a4_25 : decode cJ6_bitCount_0f7a4 25 = .ok (.iload_n 0, 1) := by decide +kernel
theorem dJ6_bitCount_0f7a4_26 : decode cJ6_bitCount_0f7a4 26 = .ok (.iconst 4, 1) := by decide +kernel
theorem dJ6_bitCount_0f7a4_27 : decode cJ6_bitCount_0f7a4 27 = .ok (.iushr, 1) := by decide +kernel
theorem dJ6_bitCount_0f7a4_28 : decode cJ6_bitCount_0f7a4 28 = .ok (.iadd, 1) := by decide +kernel
theorem dJ6_bitCount_0f7a4_29 : decode cJ6_bitCount_0f7a4 29 = .ok (.ldc_w 267, 3) := by decide +kernel
theorem dJ6_bitCount_0f7a4_32 : decode cJ6_bitCount_0f7a4 32 = .ok (.iand, 1) := by decide +kernel
theorem dJ6_bitCount_0f7a4_33 : decode cJ6_bitCount_0f7a4 33 = .ok (.istore_n 0, 1) := by decide +kernel
theorem dJ6_bitCount_0f7a4_34 : decode cJ6_bitCount_0f7a4 34 = .ok (.iload_n 0, 1) := by decide +kernel
theorem dJ6_bitCount_0f7a4_35 : decode cJ6_bitCount_0f7a4 35 = .ok (.iload_n 0, 1) := by decide +kernel
theorem dJ6_bitCount_0f7a4_36 : decode cJ6_bitCount_0f7a4 36 = .ok (.bipush 8, 2) := by decide +kernel
theorem dJ6_bitCount_0f7a4_38 : decode cJ6_bitCount_0f7a4 38 = .ok (.iushr, 1) := by decide +kernel
theorem dJ6_bitCount_0f7a4_39 : decode cJ6_bitCount_0f7a4 39 = .ok (.iadd, 1) := by decide +kernel
theorem dJ6_bitCount_0f7a4_40 : decode cJ6_bitCount_0f7a4 40 = .ok (.istore_n 0, 1) := by decide +kernel
theorem dJ6_bitCount_0f7a4_41 : decode cJ6_bitCount_0f7a4 41 = .ok (.iload_n 0, 1) := by decide +kernel
theorem dJ6_bitCount_0f7a4_42 : decode cJ6_bitCount_0f7a4 42 = .ok (.iload_n 0, 1) := by decide +kernel
theorem dJ6_bitCount_0f7a4_43 : decode cJ6_bitCount_0f7a4 43 = .ok (.bipush 16, 2) := by decide +kernel
theorem dJ6_bitCount_0f7a4_45 : decode cJ6_bitCount_0f7a4 45 = .ok (.iushr, 1) := by decide +kernel
theorem dJ6_bitCount_0f7a4_46 : decode cJ6_bitCount_0f7a4 46 = .ok (.iadd, 1) := by decide +kernel
theorem dJ6_bitCount_0f7a4_47 : decode cJ6_bitCount_0f7a4 47 = .ok (.istore_n 0, 1) := by decide +kernel
theorem dJ6_bitCount_0f7a4_48 : decode cJ6_bitCount_0f7a4 48 = .ok (.iload_n 0, 1) := by decide +kernel
theorem dJ6_bitCount_0f7a4_49 : decode cJ6_bitCount_0f7a4 49 = .ok (.bipush 63, 2) := by decide +kernel
theorem dJ6_bitCount_0f7a4_51 : decode cJ6_bitCount_0f7a4 51 = .ok (.iand, 1) := by decide +kernel
theorem dJ6_bitCount_0f7a4_52 : decode cJ6_bitCount_0f7a4 52 = .ok (.ireturn, 1) := by decide +kernel
theorem dJ13_compare_74951_0 : decode cJ13_compare_74951 0 = .ok (.lload_n 0, 1) := by decide +kernel
theorem dJ13_compare_74951_1 : decode cJ13_compare_74951 1 = .ok (.lload_n 2, 1) := by decide +kernel
theorem dJ13_compare_74951_2 : decode cJ13_compare_74951 2 = .ok (.lcmp, 1) := by decide +kernel
theorem dJ13_compare_74951_3 : decode cJ13_compare_74951 3 = .ok (.ifCond .ge 7, 3) := by decide +kernel
theorem dJ13_compare_74951_6 : decode cJ13_compare_74951 6 = .ok (.iconst (-1), 1) := by decide +kernel
theorem dJ13_compare_74951_7 : decode cJ13_compare_74951 7 = .ok (.goto 14, 3) := by decide +kernel
theorem dJ13_compare_74951_10 : decode cJ13_compare_74951 10 = .ok (.lload_n 0, 1) := by decide +kernel
theorem dJ13_compare_74951_11 : decode cJ13_compare_74951 11 = .ok (.lload_n 2, 1) := by decide +kernel
theorem dJ13_compare_74951_12 : decode cJ13_compare_74951 12 = .ok (.lcmp, 1) := by decide +kernel
theorem dJ13_compare_74951_13 : decode cJ13_compare_74951 13 = .ok (.ifCond .ne 7, 3) := by decide +kernel
theorem dJ13_compare_74951_16 : decode cJ13_compare_74951 16 = .ok (.iconst 0, 1) := by decide +kernel
theorem dJ13_compare_74951_17 : decode cJ13_compare_74951 17 = .ok (.goto 4, 3) := by decide +kernel
theorem dJ13_compare_74951_20 : decode cJ13_compare_74951 20 = .ok (.iconst 1, 1) := by decide +kernel
theorem dJ13_compare_74951_21 : decode cJ13_compare_74951 21 = .ok (.ireturn, 1) := by decide +kernel
theorem dJ9_abs_067f4_0 : decode cJ9_abs_067f4 0 = .ok (.lload_n 0, 1) := by decide +kernel
theorem dJ9_abs_067f4_1 : decode cJ9_abs_067f4 1 = .ok (.lconst 0, 1) := by decide +kernel
theorem dJ9_abs_067f4_2 : decode cJ9_abs_067f4 2 = .ok (.lcmp, 1) := by decide +kernel
theorem dJ9_abs_067f4_3 : decode cJ9_abs_067f4 3 = .ok (.ifCond .ge 8, 3) := by decide +kernel
theorem dJ9_abs_067f4_6 : decode cJ9_abs_067f4 6 = .ok (.lload_n 0, 1) := by decide +kernel
theorem dJ9_abs_067f4_7 : decode cJ9_abs_067f4 7 = .ok (.lneg, 1) := by decide +kernel
theorem dJ9_abs_067f4_8 : decode cJ9_abs_067f4 8 = .ok (.goto 4, 3) := by decide +kernel
theorem dJ9_abs_067f4_11 : decode cJ9_abs_067f4 11 = .ok (.lload_n 0, 1) := by decide +kernel
theorem dJ9_abs_067f4_12 : decode cJ9_abs_067f4 12 = .ok (.lreturn, 1) := by decide +kernel
theorem dJ9_max_7cf53_0 : decode cJ9_max_7cf53 0 = .ok (.iload_n 0, 1) := by decide +kernel
theorem dJ9_max_7cf53_1 : decode cJ9_max_7cf53 1 = .ok (.iload_n 1, 1) := by decide +kernel
theorem dJ9_max_7cf53_2 : decode cJ9_max_7cf53 2 = .ok (.if_icmp .lt 7, 3) := by decide +kernel
theorem dJ9_max_7cf53_5 : decode cJ9_max_7cf53 5 = .ok (.iload_n 0, 1) := by decide +kernel
theorem dJ9_max_7cf53_6 : decode cJ9_max_7cf53 6 = .ok (.goto 4, 3) := by decide +kernel
theorem dJ9_max_7cf53_9 : decode cJ9_max_7cf53 9 = .ok (.iload_n 1, 1) := by decide +kernel
theorem dJ9_max_7cf53_10 : decode cJ9_max_7cf53 10 = .ok (.ireturn, 1) := by decide +kernel
theorem dJ9_min_7cf53_0 : decode cJ9_min_7cf53 0 = .ok (.iload_n 0, 1) := by decide +kernel
theorem dJ9_min_7cf53_1 : decode cJ9_min_7cf53 1 = .ok (.iload_n 1, 1) := by decide +kernel
theorem dJ9_min_7cf53_2 : decode cJ9_min_7cf53 2 = .ok (.if_icmp .gt 7, 3) := by decide +kernel
theorem dJ9_min_7cf53_5 : decode cJ9_min_7cf53 5 = .ok (.iload_n 0, 1) := by decide +kernel
theorem dJ9_min_7cf53_6 : decode cJ9_min_7cf53 6 = .ok (.goto 4, 3) := by decide +kernel
theorem dJ9_min_7cf53_9 : decode cJ9_min_7cf53 9 = .ok (.iload_n 1, 1) := by decide +kernel
theorem dJ9_min_7cf53_10 : decode cJ9_min_7cf53 10 = .ok (.ireturn, 1) := by decide +kernel
