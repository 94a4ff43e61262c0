theorem dX0_init_0 : decode cX0_init 0 = .ok (.aload_n 0, 1) := by decide +kernel
theorem dX0_init_1 : decode cX0_init 1 = .ok (.invokespecial 1, 3) := by decide +kernel
theorem dX0_init_4 : decode cX0_init 4 = .ok (.aload_n 0, 1) := by decide +kernel
theorem dX0_init_5 : decode cX0_init 5 = .ok (.bipush 50, 2) := by decide +kernel
theorem dX0_init_7 : decode cX0_init 7 = .ok (.putfield 7, 3) := by decide +kernel
theorem dX0_init_10 : decode cX0_init 10 = .ok (.aload_n 0, 1) := by decide +kernel
theorem dX0_init_11 : decode cX0_init 11 = .ok (.sipush 1000, 3) := by decide +kernel
theorem dX0_init_14 : decode cX0_init 14 = .ok (.putfield 13, 3) := by decide +kernel
theorem dX0_init_17 : decode cX0_init 17 = .ok (.aload_n 0, 1) := by decide +kernel
theorem dX0_init_18 : decode cX0_init 18 = .ok (.iload_n 1, 1) := by decide +kernel
theorem dX0_init_19 : decode cX0_init 19 = .ok (.putfield 16, 3) := by decide +kernel
theorem dX0_init_22 : decode cX0_init 22 = .ok (.return_, 1) := by decide +kernel
theorem dX1_init_0 : decode cX1_init 0 = .ok (.aload_n 0, 1) := by decide +kernel
theorem dX1_init_1 : decode cX1_init 1 = .ok (.invokespecial 1, 3) := by decide +kernel
theorem dX1_init_4 : decode cX1_init 4 = .ok (.aload_n 0, 1) := by decide +kernel
theorem dX1_init_5 : decode cX1_init 5 = .ok (.iconst 0, 1) := by decide +kernel
theorem dX1_init_6 : decode cX1_init 6 = .ok (.putfield 7, 3) := by decide +kernel
theorem dX1_init_9 : decode cX1_init 9 = .ok (.aload_n 0, 1) := by decide +kernel
theorem dX1_init_10 : decode cX1_init 10 = .ok (.iconst 0, 1) := by decide +kernel
theorem dX1_init_11 : decode cX1_init 11 = .ok (.putfield 13, 3) := by decide +kernel
theorem dX1_init_14 : decode cX1_init 14 = .ok (.aload_n 0, 1) := by decide +kernel
theorem dX1_init_15 : decode cX1_init 15 = .ok (.iconst 0, 1) := by decide +kernel
theorem dX1_init_16 : decode cX1_init 16 = .ok (.putfield 16, 3) := by decide +kernel
theorem dX1_init_19 : decode cX1_init 19 = .ok (.return_, 1) := by decide +kernel
theorem dX1_valueBy_0 : decode cX1_valueBy 0 = .ok (.iload_n 1, 1) := by decide +kernel
theorem dX1_valueBy_1 : decode cX1_valueBy 1 = .ok (.bipush 100, 2) := by decide +kernel
theorem dX1_valueBy_3 : decode cX1_valueBy 3 = .ok (.aload_n 0, 1) := by decide +kernel
theorem dX1_valueBy_4 : decode cX1_valueBy 4 = .ok (.getfield 7, 3) := by decide +kernel
theorem dX1_valueBy_7 : decode cX1_valueBy 7 = .ok (.iadd, 1) := by decide +kernel
theorem dX1_valueBy_8 : decode cX1_valueBy 8 = .ok (.imul, 1) := by decide +kernel
theorem dX1_valueBy_9 : decode cX1_valueBy 9 = .ok (.bipush 100, 2) := by decide +kernel
theorem dX1_valueBy_11 : decode cX1_valueBy 11 = .ok (.idiv, 1) := by decide +kernel
theorem dX1_valueBy_12 : decode cX1_valueBy 12 = .ok (.ireturn, 1) := by decide +kernel
theorem dX2_init_0 : decode cX2_init 0 = .ok (.aload_n 0, 1) := by decide +kernel
theorem dX2_init_1 : decode cX2_init 1 = .ok (.invokespecial 1, 3) := by decide +kernel
theorem dX2_init_4 : decode cX2_init 4 = .ok (.aload_n 0, 1) := by decide +kernel
theorem dX2_init_5 : decode cX2_init 5 = .ok (.bipush 30, 2) := by decide +kernel
theorem dX2_init_7 : decode cX2_init 7 = .ok (.newarray .int, 2) := by decide +kernel
theorem dX2_init_9 : decode cX2_init 9 = .ok (.putfield 9, 3) := by decide +kernel
theorem dX2_init_12 : decode cX2_init 12 = .ok (.aload_n 0, 1) := by decide +kernel
theorem dX2_init_13 : decode cX2_init 13 = .ok (.bipush 30, 2) := by decide +kernel
theorem dX2_init_15 : decode cX2_init 15 = .ok (.newarray .int, 2) := by decide +kernel
theorem dX2_init_17 : decode cX2_init 17 = .ok (.putfield 13, 3) := by decide +kernel
theorem dX2_init_20 : decode cX2_init 20 = .ok (.aload_n 0, 1) := by decide +kernel
theorem dX2_init_21 : decode cX2_init 21 = .ok (.bipush 30, 2) := by decide +kernel
theorem dX2_init_23 : decode cX2_init 23 = .ok (.newarray .int, 2) := by decide +kernel
theorem dX2_init_25 : decode cX2_init 25 = .ok (.putfield 16, 3) := by decide +kernel
theorem dX2_init_28 : decode cX2_init 28 = .ok (.aload_n 0, 1) := by decide +kernel
theorem dX2_init_29 : decode cX2_init 29 = .ok (.iconst 0, 1) := by decide +kernel
theorem dX2_init_30 : decode cX2_init 30 = .ok (.putfield 19, 3) := by decide +kernel
theorem dX2_init_33 : decode cX2_init 33 = .ok (.aload_n 0, 1) := by decide +kernel
theorem dX2_init_34 : decode cX2_init 34 = .ok (.bipush 10, 2) := by decide +kernel
theorem dX2_init_36 : decode cX2_init 36 = .ok (.newarray .int, 2) := by decide +kernel
theorem dX2_init_38 : decode cX2_init 38 = .ok (.putfield 23, 3) := by decide +kernel
theorem dX2_init_41 : decode cX2_init 41 = .ok (.aload_n 0, 1) := by decide +kernel
theorem dX2_init_42 : decode cX2_init 42 = .ok (.bipush 10, 2) := by decide +kernel
theorem dX2_init_44 : decode cX2_init 44 = .ok (.newarray .int, 2) := by decide +kernel
theorem dX2_init_46 : decode cX2_init 46 = .ok (.putfield 26, 3) := by decide +kernel
theorem dX2_init_49 : decode cX2_init 49 = .ok (.aload_n 0, 1) := by decide +kernel
theorem dX2_init_50 : decode cX2_init 50 = .ok (.iconst 0, 1) := by decide +kernel
theorem dX2_init_51 : decode cX2_init 51 = .ok (.putfield 29, 3) := by decide +kernel
theorem dX2_init_54 : decode cX2_init 54 = .ok (.return_, 1) := by decide +kernel
theorem dX2_takesRate_0 : decode cX2_takesRate 0 = .ok (.aload_n 0, 1) := by decide +kernel
theorem dX2_takesRate_1 : decode cX2_takesRate 1 = .ok (.getfield 19, 3) := by decide +kernel
theorem dX2_takesRate_4 : decode cX2_takesRate 4 = .ok (.bipush 30, 2) := by decide +kernel
theorem dX2_takesRate_6 : decode cX2_takesRate 6 = .ok (.if_icmp .ge 7, 3) := by decide +kernel
theorem dX2_takesRate_9 : decode cX2_takesRate 9 = .ok (.iconst 1, 1) := by decide +kernel
theorem dX2_takesRate_10 : decode cX2_takesRate 10 = .ok (.goto 4, 3) := by decide +kernel
theorem dX2_takesRate_13 : decode cX2_takesRate 13 = .ok (.iconst 0, 1) := by decide +kernel
theorem dX2_takesRate_14 : decode cX2_takesRate 14 = .ok (.ireturn, 1) := by decide +kernel
theorem dX2_addRate_0 : decode cX2_addRate 0 = .ok (.aload_n 0, 1) := by decide +kernel
theorem dX2_addRate_1 : decode cX2_addRate 1 = .ok (.invokevirtual 32, 3) := by decide +kernel
theorem dX2_addRate_4 : decode cX2_addRate 4 = .ok (.ifCond .eq 43, 3) := by decide +kernel
theorem dX2_addRate_7 : decode cX2_addRate 7 = .ok (.aload_n 0, 1) := by decide +kernel
theorem dX2_addRate_8 : decode cX2_addRate 8 = .ok (.getfield 9, 3) := by decide +kernel
theorem dX2_addRate_11 : decode cX2_addRate 11 = .ok (.aload_n 0, 1) := by decide +kernel
theorem dX2_addRate_12 : decode cX2_addRate 12 = .ok (.getfield 19, 3) := by decide +kernel
theorem dX2_addRate_15 : decode cX2_addRate 15 = .ok (.iload_n 1, 1) := by decide +kernel
theorem dX2_addRate_16 : decode cX2_addRate 16 = .ok (.iastore, 1) := by decide +kernel
theorem dX2_addRate_17 : decode cX2_addRate 17 = .ok (.aload_n 0, 1) := by decide +kernel
theorem dX2_addRate_18 : decode cX2_addRate 18 = .ok (.getfield 13, 3) := by decide +kernel
theorem dX2_addRate_21 : decode cX2_addRate 21 = .ok (.aload_n 0, 1) := by decide +kernel
theorem dX2_addRate_22 : decode cX2_addRate 22 = .ok (.getfield 19, 3) := by decide +kernel
theorem dX2_addRate_25 : decode cX2_addRate 25 = .ok (.iload_n 2, 1) := by decide +kernel
theorem dX2_addRate_26 : decode cX2_addRate 26 = .ok (.iastore, 1) := by decide +kernel
theorem dX2_addRate_27 : decode cX2_addRate 27 = .ok (.aload_n 0, 1) := by decide +kernel
theorem dX2_addRate_28 : decode cX2_addRate 28 = .ok (.getfield 16, 3) := by decide +kernel
theorem dX2_addRate_31 : decode cX2_addRate 31 = .ok (.aload_n 0, 1) := by decide +kernel
theorem dX2_addRate_32 : decode cX2_addRate 32 = .ok (.getfield 19, 3) := by decide +kernel
theorem dX2_addRate_35 : decode cX2_addRate 35 = .ok (.iload_n 3, 1) := by decide +kernel
theorem dX2_addRate_36 : decode cX2_addRate 36 = .ok (.iastore, 1) := by decide +kernel
theorem dX2_addRate_37 : decode cX2_addRate 37 = .ok (.aload_n 0, 1) := by decide +kernel
theorem dX2_addRate_38 : decode cX2_addRate 38 = .ok (.dup, 1) := by decide +kernel
theorem dX2_addRate_39 : decode cX2_addRate 39 = .ok (.getfield 19, 3) := by decide +kernel
theorem dX2_addRate_42 : decode cX2_addRate 42 = .ok (.iconst 1, 1) := by decide +kernel
theorem dX2_addRate_43 : decode cX2_addRate 43 = .ok (.iadd, 1) := by decide +kernel
theorem dX2_addRate_44 : decode cX2_addRate 44 = .ok (.putfield 19, 3) := by decide +kernel
theorem dX2_addRate_47 : decode cX2_addRate 47 = .ok (.return_, 1) := by decide +kernel
theorem dX2_takesAmnesty_0 : decode cX2_takesAmnesty 0 = .ok (.aload_n 0, 1) := by decide +kernel
theorem dX2_takesAmnesty_1 : decode cX2_takesAmnesty 1 = .ok (.getfield 29, 3) := by decide +kernel
theorem dX2_takesAmnesty_4 : decode cX2_takesAmnesty 4 = .ok (.bipush 10, 2) := by decide +kernel
theorem dX2_takesAmnesty_6 : decode cX2_takesAmnesty 6 = .ok (.if_icmp .ge 7, 3) := by decide +kernel
theorem dX2_takesAmnesty_9 : decode cX2_takesAmnesty 9 = .ok (.iconst 1, 1) := by decide +kernel
theorem dX2_takesAmnesty_10 : decode cX2_takesAmnesty 10 = .ok (.goto 4, 3) := by decide +kernel
theorem dX2_takesAmnesty_13 : decode cX2_takesAmnesty 13 = .ok (.iconst 0, 1) := by decide +kernel
theorem dX2_takesAmnesty_14 : decode cX2_takesAmnesty 14 = .ok (.ireturn, 1) := by decide +kernel
theorem dX2_addAmnesty_0 : decode cX2_addAmnesty 0 = .ok (.aload_n 0, 1) := by decide +kernel
theorem dX2_addAmnesty_1 : decode cX2_addAmnesty 1 = .ok (.invokevirtual 36, 3) := by decide +kernel
theorem dX2_addAmnesty_4 : decode cX2_addAmnesty 4 = .ok (.ifCond .eq 33, 3) := by decide +kernel
theorem dX2_addAmnesty_7 : decode cX2_addAmnesty 7 = .ok (.aload_n 0, 1) := by decide +kernel
theorem dX2_addAmnesty_8 : decode cX2_addAmnesty 8 = .ok (.getfield 23, 3) := by decide +kernel
theorem dX2_addAmnesty_11 : decode cX2_addAmnesty 11 = .ok (.aload_n 0, 1) := by decide +kernel
theorem dX2_addAmnesty_12 : decode cX2_addAmnesty 12 = .ok (.getfield 29, 3) := by decide +kernel
theorem dX2_addAmnesty_15 : decode cX2_addAmnesty 15 = .ok (.iload_n 1, 1) := by decide +kernel
theorem dX2_addAmnesty_16 : decode cX2_addAmnesty 16 = .ok (.iastore, 1) := by decide +kernel
theorem dX2_addAmnesty_17 : decode cX2_addAmnesty 17 = .ok (.aload_n 0, 1) := by decide +kernel
theorem dX2_addAmnesty_18 : decode cX2_addAmnesty 18 = .ok (.getfield 26, 3) := by decide +kernel
theorem dX2_addAmnesty_21 : decode cX2_addAmnesty 21 = .ok (.aload_n 0, 1) := by decide +kernel
theorem dX2_addAmnesty_22 : decode cX2_addAmnesty 22 = .ok (.getfield 29, 3) := by decide +kernel
theorem dX2_addAmnesty_25 : decode cX2_addAmnesty 25 = .ok (.iload_n 2, 1) := by decide +kernel
theorem dX2_addAmnesty_26 : decode cX2_addAmnesty 26 = .ok (.iastore, 1) := by decide +kernel
theorem dX2_addAmnesty_27 : decode cX2_addAmnesty 27 = .ok (.aload_n 0, 1) := by decide +kernel
theorem dX2_addAmnesty_28 : decode cX2_addAmnesty 28 = .ok (.dup, 1) := by decide +kernel
theorem dX2_addAmnesty_29 : decode cX2_addAmnesty 29 = .ok (.getfield 29, 3) := by decide +kernel
theorem dX2_addAmnesty_32 : decode cX2_addAmnesty 32 = .ok (.iconst 1, 1) := by decide +kernel
theorem dX2_addAmnesty_33 : decode cX2_addAmnesty 33 = .ok (.iadd, 1) := by decide +kernel
theorem dX2_addAmnesty_34 : decode cX2_addAmnesty 34 = .ok (.putfield 29, 3) := by decide +kernel
theorem dX2_addAmnesty_37 : decode cX2_addAmnesty 37 = .ok (.return_, 1) := by decide +kernel
theorem dX2_rateOn_0 : decode cX2_rateOn 0 = .ok (.aload_n 0, 1) := by decide +kernel
theorem dX2_rateOn_1 : decode cX2_rateOn 1 = .ok (.getfield 19, 3) := by decide +kernel
theorem dX2_rateOn_4 : decode cX2_rateOn 4 = .ok (.iconst 1, 1) := by decide +kernel
theorem dX2_rateOn_5 : decode cX2_rateOn 5 = .ok (.isub, 1) := by decide +kernel
theorem dX2_rateOn_6 : decode cX2_rateOn 6 = .ok (.istore_n 3, 1) := by decide +kernel
theorem dX2_rateOn_7 : decode cX2_rateOn 7 = .ok (.iload_n 3, 1) := by decide +kernel
theorem dX2_rateOn_8 : decode cX2_rateOn 8 = .ok (.ifCond .lt 36, 3) := by decide +kernel
theorem dX2_rateOn_11 : decode cX2_rateOn 11 = .ok (.aload_n 0, 1) := by decide +kernel
theorem dX2_rateOn_12 : decode cX2_rateOn 12 = .ok (.getfield 13, 3) := by decide +kernel
theorem dX2_rateOn_15 : decode cX2_rateOn 15 = .ok (.iload_n 3, 1) := by decide +kernel
theorem dX2_rateOn_16 : decode cX2_rateOn 16 = .ok (.iaload, 1) := by decide +kernel
theorem dX2_rateOn_17 : decode cX2_rateOn 17 = .ok (.iload_n 1, 1) := by decide +kernel
theorem dX2_rateOn_18 : decode cX2_rateOn 18 = .ok (.if_icmp .ne 20, 3) := by decide +kernel
theorem dX2_rateOn_21 : decode cX2_rateOn 21 = .ok (.aload_n 0, 1) := by decide +kernel
theorem dX2_rateOn_22 : decode cX2_rateOn 22 = .ok (.getfield 9, 3) := by decide +kernel
theorem dX2_rateOn_25 : decode cX2_rateOn 25 = .ok (.iload_n 3, 1) := by decide +kernel
theorem dX2_rateOn_26 : decode cX2_rateOn 26 = .ok (.iaload, 1) := by decide +kernel
theorem dX2_rateOn_27 : decode cX2_rateOn 27 = .ok (.iload_n 2, 1) := by decide +kernel
theorem dX2_rateOn_28 : decode cX2_rateOn 28 = .ok (.if_icmp .gt 10, 3) := by decide +kernel
theorem dX2_rateOn_31 : decode cX2_rateOn 31 = .ok (.aload_n 0, 1) := by decide +kernel
theorem dX2_rateOn_32 : decode cX2_rateOn 32 = .ok (.getfield 16, 3) := by decide +kernel
theorem dX2_rateOn_35 : decode cX2_rateOn 35 = .ok (.iload_n 3, 1) := by decide +kernel
theorem dX2_rateOn_36 : decode cX2_rateOn 36 = .ok (.iaload, 1) := by decide +kernel
theorem dX2_rateOn_37 : decode cX2_rateOn 37 = .ok (.ireturn, 1) := by decide +kernel
theorem dX2_rateOn_38 : decode cX2_rateOn 38 = .ok (.iinc 3 (-1), 3) := by decide +kernel
theorem dX2_rateOn_41 : decode cX2_rateOn 41 = .ok (.goto (-34), 3) := by decide +kernel
theorem dX2_rateOn_44 : decode cX2_rateOn 44 = .ok (.iload_n 1, 1) := by decide +kernel
theorem dX2_rateOn_45 : decode cX2_rateOn 45 = .ok (.invokestatic 39, 3) := by decide +kernel
theorem dX2_rateOn_48 : decode cX2_rateOn 48 = .ok (.ireturn, 1) := by decide +kernel
theorem dX2_firstRate_0 : decode cX2_firstRate 0 = .ok (.iload_n 0, 1) := by decide +kernel
theorem dX2_firstRate_1 : decode cX2_firstRate 1 = .ok (.ifCond .ne 6, 3) := by decide +kernel
theorem dX2_firstRate_4 : decode cX2_firstRate 4 = .ok (.bipush 10, 2) := by decide +kernel
theorem dX2_firstRate_6 : decode cX2_firstRate 6 = .ok (.ireturn, 1) := by decide +kernel
theorem dX2_firstRate_7 : decode cX2_firstRate 7 = .ok (.iload_n 0, 1) := by decide +kernel
theorem dX2_firstRate_8 : decode cX2_firstRate 8 = .ok (.iconst 1, 1) := by decide +kernel
theorem dX2_firstRate_9 : decode cX2_firstRate 9 = .ok (.if_icmp .ne 8, 3) := by decide +kernel
theorem dX2_firstRate_12 : decode cX2_firstRate 12 = .ok (.bipush 15, 2) := by decide +kernel
theorem dX2_firstRate_14 : decode cX2_firstRate 14 = .ok (.goto 5, 3) := by decide +kernel
theorem dX2_firstRate_17 : decode cX2_firstRate 17 = .ok (.bipush 20, 2) := by decide +kernel
theorem dX2_firstRate_19 : decode cX2_firstRate 19 = .ok (.ireturn, 1) := by decide +kernel
theorem dX2_isFree_0 : decode cX2_isFree 0 = .ok (.iconst 0, 1) := by decide +kernel
theorem dX2_isFree_1 : decode cX2_isFree 1 = .ok (.istore_n 2, 1) := by decide +kernel
theorem dX2_isFree_2 : decode cX2_isFree 2 = .ok (.iload_n 2, 1) := by decide +kernel
theorem dX2_isFree_3 : decode cX2_isFree 3 = .ok (.aload_n 0, 1) := by decide +kernel
theorem dX2_isFree_4 : decode cX2_isFree 4 = .ok (.getfield 29, 3) := by decide +kernel
theorem dX2_isFree_7 : decode cX2_isFree 7 = .ok (.if_icmp .ge 31, 3) := by decide +kernel
theorem dX2_isFree_10 : decode cX2_isFree 10 = .ok (.aload_n 0, 1) := by decide +kernel
theorem dX2_isFree_11 : decode cX2_isFree 11 = .ok (.getfield 23, 3) := by decide +kernel
theorem dX2_isFree_14 : decode cX2_isFree 14 = .ok (.iload_n 2, 1) := by decide +kernel
theorem dX2_isFree_15 : decode cX2_isFree 15 = .ok (.iaload, 1) := by decide +kernel
theorem dX2_isFree_16 : decode cX2_isFree 16 = .ok (.iload_n 1, 1) := by decide +kernel
theorem dX2_isFree_17 : decode cX2_isFree 17 = .ok (.if_icmp .gt 15, 3) := by decide +kernel
theorem dX2_isFree_20 : decode cX2_isFree 20 = .ok (.iload_n 1, 1) := by decide +kernel
theorem dX2_isFree_21 : decode cX2_isFree 21 = .ok (.aload_n 0, 1) := by decide +kernel
theorem dX2_isFree_22 : decode cX2_isFree 22 = .ok (.getfield 26, 3) := by decide +kernel
theorem dX2_isFree_25 : decode cX2_isFree 25 = .ok (.iload_n 2, 1) := by decide +kernel
theorem dX2_isFree_26 : decode cX2_isFree 26 = .ok (.iaload, 1) := by decide +kernel
theorem dX2_isFree_27 : decode cX2_isFree 27 = .ok (.if_icmp .gt 5, 3) := by decide +kernel
theorem dX2_isFree_30 : decode cX2_isFree 30 = .ok (.iconst 1, 1) := by decide +kernel
theorem dX2_isFree_31 : decode cX2_isFree 31 = .ok (.ireturn, 1) := by decide +kernel
theorem dX2_isFree_32 : decode cX2_isFree 32 = .ok (.iinc 2 1, 3) := by decide +kernel
theorem dX2_isFree_35 : decode cX2_isFree 35 = .ok (.goto (-33), 3) := by decide +kernel
theorem dX2_isFree_38 : decode cX2_isFree 38 = .ok (.iconst 0, 1) := by decide +kernel
theorem dX2_isFree_39 : decode cX2_isFree 39 = .ok (.ireturn, 1) := by decide +kernel
theorem dX2_stepOf_0 : decode cX2_stepOf 0 = .ok (.iload_n 0, 1) := by decide +kernel
theorem dX2_stepOf_1 : decode cX2_stepOf 1 = .ok (.bipush 6, 2) := by decide +kernel
theorem dX2_stepOf_3 : decode cX2_stepOf 3 = .ok (.if_icmp .ge 5, 3) := by decide +kernel
theorem dX2_stepOf_6 : decode cX2_stepOf 6 = .ok (.iconst 0, 1) := by decide +kernel
theorem dX2_stepOf_7 : decode cX2_stepOf 7 = .ok (.ireturn, 1) := by decide +kernel
theorem dX2_stepOf_8 : decode cX2_stepOf 8 = .ok (.iload_n 0, 1) := by decide +kernel
theorem dX2_stepOf_9 : decode cX2_stepOf 9 = .ok (.bipush 18, 2) := by decide +kernel
theorem dX2_stepOf_11 : decode cX2_stepOf 11 = .ok (.if_icmp .ge 7, 3) := by decide +kernel
theorem dX2_stepOf_14 : decode cX2_stepOf 14 = .ok (.iconst 1, 1) := by decide +kernel
theorem dX2_stepOf_15 : decode cX2_stepOf 15 = .ok (.goto 4, 3) := by decide +kernel
theorem dX2_stepOf_18 : decode cX2_stepOf 18 = .ok (.iconst 2, 1) := by decide +kernel
theorem dX2_stepOf_19 : decode cX2_stepOf 19 = .ok (.ireturn, 1) := by decide +kernel
theorem dX2_costOf_0 : decode cX2_costOf 0 = .ok (.aload_n 0, 1) := by decide +kernel
theorem dX2_costOf_1 : decode cX2_costOf 1 = .ok (.iload_n 3, 1) := by decide +kernel
theorem dX2_costOf_2 : decode cX2_costOf 2 = .ok (.invokevirtual 43, 3) := by decide +kernel
theorem dX2_costOf_5 : decode cX2_costOf 5 = .ok (.ifCond .eq 5, 3) := by decide +kernel
theorem dX2_costOf_8 : decode cX2_costOf 8 = .ok (.iconst 0, 1) := by decide +kernel
theorem dX2_costOf_9 : decode cX2_costOf 9 = .ok (.ireturn, 1) := by decide +kernel
theorem dX2_costOf_10 : decode cX2_costOf 10 = .ok (.iload_n 1, 1) := by decide +kernel
theorem dX2_costOf_11 : decode cX2_costOf 11 = .ok (.aload_n 0, 1) := by decide +kernel
theorem dX2_costOf_12 : decode cX2_costOf 12 = .ok (.iload_n 2, 1) := by decide +kernel
theorem dX2_costOf_13 : decode cX2_costOf 13 = .ok (.invokestatic 47, 3) := by decide +kernel
theorem dX2_costOf_16 : decode cX2_costOf 16 = .ok (.iload_n 3, 1) := by decide +kernel
theorem dX2_costOf_17 : decode cX2_costOf 17 = .ok (.invokevirtual 50, 3) := by decide +kernel
theorem dX2_costOf_20 : decode cX2_costOf 20 = .ok (.imul, 1) := by decide +kernel
theorem dX2_costOf_21 : decode cX2_costOf 21 = .ok (.sipush 999, 3) := by decide +kernel
theorem dX2_costOf_24 : decode cX2_costOf 24 = .ok (.iadd, 1) := by decide +kernel
theorem dX2_costOf_25 : decode cX2_costOf 25 = .ok (.sipush 1000, 3) := by decide +kernel
theorem dX2_costOf_28 : decode cX2_costOf 28 = .ok (.idiv, 1) := by decide +kernel
theorem dX2_costOf_29 : decode cX2_costOf 29 = .ok (.ireturn, 1) := by decide +kernel
theorem dX2_interest_0 : decode cX2_interest 0 = .ok (.iload_n 3, 1) := by decide +kernel
theorem dX2_interest_1 : decode cX2_interest 1 = .ok (.iload_n 2, 1) := by decide +kernel
theorem dX2_interest_2 : decode cX2_interest 2 = .ok (.isub, 1) := by decide +kernel
theorem dX2_interest_3 : decode cX2_interest 3 = .ok (.iconst 3, 1) := by decide +kernel
theorem dX2_interest_4 : decode cX2_interest 4 = .ok (.if_icmp .gt 5, 3) := by decide +kernel
theorem dX2_interest_7 : decode cX2_interest 7 = .ok (.iconst 0, 1) := by decide +kernel
theorem dX2_interest_8 : decode cX2_interest 8 = .ok (.ireturn, 1) := by decide +kernel
theorem dX2_interest_9 : decode cX2_interest 9 = .ok (.iload_n 3, 1) := by decide +kernel
theorem dX2_interest_10 : decode cX2_interest 10 = .ok (.iload_n 2, 1) := by decide +kernel
theorem dX2_interest_11 : decode cX2_interest 11 = .ok (.isub, 1) := by decide +kernel
theorem dX2_interest_12 : decode cX2_interest 12 = .ok (.bipush 14, 2) := by decide +kernel
theorem dX2_interest_14 : decode cX2_interest 14 = .ok (.idiv, 1) := by decide +kernel
theorem dX2_interest_15 : decode cX2_interest 15 = .ok (.iconst 1, 1) := by decide +kernel
theorem dX2_interest_16 : decode cX2_interest 16 = .ok (.iadd, 1) := by decide +kernel
theorem dX2_interest_17 : decode cX2_interest 17 = .ok (.istore 4, 2) := by decide +kernel
theorem dX2_interest_19 : decode cX2_interest 19 = .ok (.iconst 0, 1) := by decide +kernel
theorem dX2_interest_20 : decode cX2_interest 20 = .ok (.istore 5, 2) := by decide +kernel
theorem dX2_interest_22 : decode cX2_interest 22 = .ok (.iconst 0, 1) := by decide +kernel
theorem dX2_interest_23 : decode cX2_interest 23 = .ok (.istore 6, 2) := by decide +kernel
theorem dX2_interest_25 : decode cX2_interest 25 = .ok (.iload 6, 2) := by decide +kernel
theorem dX2_interest_27 : decode cX2_interest 27 = .ok (.iload 4, 2) := by decide +kernel
theorem dX2_interest_29 : decode cX2_interest 29 = .ok (.if_icmp .ge 28, 3) := by decide +kernel
theorem dX2_interest_32 : decode cX2_interest 32 = .ok (.iload 5, 2) := by decide +kernel
theorem dX2_interest_34 : decode cX2_interest 34 = .ok (.aload_n 0, 1) := by decide +kernel
theorem dX2_interest_35 : decode cX2_interest 35 = .ok (.iload_n 1, 1) := by decide +kernel
theorem dX2_interest_36 : decode cX2_interest 36 = .ok (.iload 6, 2) := by decide +kernel
theorem dX2_interest_38 : decode cX2_interest 38 = .ok (.iload_n 2, 1) := by decide +kernel
theorem dX2_interest_39 : decode cX2_interest 39 = .ok (.iload 6, 2) := by decide +kernel
theorem dX2_interest_41 : decode cX2_interest 41 = .ok (.bipush 14, 2) := by decide +kernel
theorem dX2_interest_43 : decode cX2_interest 43 = .ok (.imul, 1) := by decide +kernel
theorem dX2_interest_44 : decode cX2_interest 44 = .ok (.iadd, 1) := by decide +kernel
theorem dX2_interest_45 : decode cX2_interest 45 = .ok (.invokevirtual 54, 3) := by decide +kernel
theorem dX2_interest_48 : decode cX2_interest 48 = .ok (.iadd, 1) := by decide +kernel
theorem dX2_interest_49 : decode cX2_interest 49 = .ok (.istore 5, 2) := by decide +kernel
theorem dX2_interest_51 : decode cX2_interest 51 = .ok (.iinc 6 1, 3) := by decide +kernel
theorem dX2_interest_54 : decode cX2_interest 54 = .ok (.goto (-29), 3) := by decide +kernel
theorem dX2_interest_57 : decode cX2_interest 57 = .ok (.iload 5, 2) := by decide +kernel
theorem dX2_interest_59 : decode cX2_interest 59 = .ok (.ireturn, 1) := by decide +kernel
theorem dX2_interestByDays_0 : decode cX2_interestByDays 0 = .ok (.iconst 0, 1) := by decide +kernel
theorem dX2_interestByDays_1 : decode cX2_interestByDays 1 = .ok (.istore 4, 2) := by decide +kernel
theorem dX2_interestByDays_3 : decode cX2_interestByDays 3 = .ok (.iconst 0, 1) := by decide +kernel
theorem dX2_interestByDays_4 : decode cX2_interestByDays 4 = .ok (.istore 5, 2) := by decide +kernel
theorem dX2_interestByDays_6 : decode cX2_interestByDays 6 = .ok (.iconst 0, 1) := by decide +kernel
theorem dX2_interestByDays_7 : decode cX2_interestByDays 7 = .ok (.istore 6, 2) := by decide +kernel
theorem dX2_interestByDays_9 : decode cX2_interestByDays 9 = .ok (.iload_n 2, 1) := by decide +kernel
theorem dX2_interestByDays_10 : decode cX2_interestByDays 10 = .ok (.istore 7, 2) := by decide +kernel
theorem dX2_interestByDays_12 : decode cX2_interestByDays 12 = .ok (.iload 7, 2) := by decide +kernel
theorem dX2_interestByDays_14 : decode cX2_interestByDays 14 = .ok (.iload_n 3, 1) := by decide +kernel
theorem dX2_interestByDays_15 : decode cX2_interestByDays 15 = .ok (.if_icmp .gt 38, 3) := by decide +kernel
theorem dX2_interestByDays_18 : decode cX2_interestByDays 18 = .ok (.iload 6, 2) := by decide +kernel
theorem dX2_interestByDays_20 : decode cX2_interestByDays 20 = .ok (.ifCond .ne 24, 3) := by decide +kernel
theorem dX2_interestByDays_23 : decode cX2_interestByDays 23 = .ok (.iload 4, 2) := by decide +kernel
theorem dX2_interestByDays_25 : decode cX2_interestByDays 25 = .ok (.aload_n 0, 1) := by decide +kernel
theorem dX2_interestByDays_26 : decode cX2_interestByDays 26 = .ok (.iload_n 1, 1) := by decide +kernel
theorem dX2_interestByDays_27 : decode cX2_interestByDays 27 = .ok (.iload 5, 2) := by decide +kernel
theorem dX2_interestByDays_29 : decode cX2_interestByDays 29 = .ok (.iload 7, 2) := by decide +kernel
theorem dX2_interestByDays_31 : decode cX2_interestByDays 31 = .ok (.invokevirtual 54, 3) := by decide +kernel
theorem dX2_interestByDays_34 : decode cX2_interestByDays 34 = .ok (.iadd, 1) := by decide +kernel
theorem dX2_interestByDays_35 : decode cX2_interestByDays 35 = .ok (.istore 4, 2) := by decide +kernel
theorem dX2_interestByDays_37 : decode cX2_interestByDays 37 = .ok (.iinc 5 1, 3) := by decide +kernel
theorem dX2_interestByDays_40 : decode cX2_interestByDays 40 = .ok (.bipush 14, 2) := by decide +kernel
theorem dX2_interestByDays_42 : decode cX2_interestByDays 42 = .ok (.istore 6, 2) := by decide +kernel
theorem dX2_interestByDays_44 : decode cX2_interestByDays 44 = .ok (.iinc 6 (-1), 3) := by decide +kernel
theorem dX2_interestByDays_47 : decode cX2_interestByDays 47 = .ok (.iinc 7 1, 3) := by decide +kernel
theorem dX2_interestByDays_50 : decode cX2_interestByDays 50 = .ok (.goto (-38), 3) := by decide +kernel
theorem dX2_interestByDays_53 : decode cX2_interestByDays 53 = .ok (.iload_n 3, 1) := by decide +kernel
theorem dX2_interestByDays_54 : decode cX2_interestByDays 54 = .ok (.iload_n 2, 1) := by decide +kernel
theorem dX2_interestByDays_55 : decode cX2_interestByDays 55 = .ok (.isub, 1) := by decide +kernel
theorem dX2_interestByDays_56 : decode cX2_interestByDays 56 = .ok (.iconst 3, 1) := by decide +kernel
theorem dX2_interestByDays_57 : decode cX2_interestByDays 57 = .ok (.if_icmp .le 8, 3) := by decide +kernel
theorem dX2_interestByDays_60 : decode cX2_interestByDays 60 = .ok (.iload 4, 2) := by decide +kernel
theorem dX2_interestByDays_62 : decode cX2_interestByDays 62 = .ok (.goto 4, 3) := by decide +kernel
theorem dX2_interestByDays_65 : decode cX2_interestByDays 65 = .ok (.iconst 0, 1) := by decide +kernel
theorem dX2_interestByDays_66 : decode cX2_interestByDays 66 = .ok (.ireturn, 1) := by decide +kernel
theorem dX3_init_0 : decode cX3_init 0 = .ok (.aload_n 0, 1) := by decide +kernel
theorem dX3_init_1 : decode cX3_init 1 = .ok (.invokespecial 3, 3) := by decide +kernel
theorem dX3_init_4 : decode cX3_init 4 = .ok (.aload_n 0, 1) := by decide +kernel
theorem dX3_init_5 : decode cX3_init 5 = .ok (.iconst 0, 1) := by decide +kernel
theorem dX3_init_6 : decode cX3_init 6 = .ok (.putfield 9, 3) := by decide +kernel
theorem dX3_init_9 : decode cX3_init 9 = .ok (.aload_n 0, 1) := by decide +kernel
theorem dX3_init_10 : decode cX3_init 10 = .ok (.iconst 0, 1) := by decide +kernel
theorem dX3_init_11 : decode cX3_init 11 = .ok (.putfield 15, 3) := by decide +kernel
theorem dX3_init_14 : decode cX3_init 14 = .ok (.aload_n 0, 1) := by decide +kernel
theorem dX3_init_15 : decode cX3_init 15 = .ok (.iconst 0, 1) := by decide +kernel
theorem dX3_init_16 : decode cX3_init 16 = .ok (.putfield 19, 3) := by decide +kernel
theorem dX3_init_19 : decode cX3_init 19 = .ok (.aload_n 0, 1) := by decide +kernel
theorem dX3_init_20 : decode cX3_init 20 = .ok (.iconst (-1), 1) := by decide +kernel
theorem dX3_init_21 : decode cX3_init 21 = .ok (.putfield 22, 3) := by decide +kernel
theorem dX3_init_24 : decode cX3_init 24 = .ok (.aload_n 0, 1) := by decide +kernel
theorem dX3_init_25 : decode cX3_init 25 = .ok (.iconst (-1), 1) := by decide +kernel
theorem dX3_init_26 : decode cX3_init 26 = .ok (.putfield 25, 3) := by decide +kernel
theorem dX3_init_29 : decode cX3_init 29 = .ok (.aload_n 0, 1) := by decide +kernel
theorem dX3_init_30 : decode cX3_init 30 = .ok (.iconst 0, 1) := by decide +kernel
theorem dX3_init_31 : decode cX3_init 31 = .ok (.putfield 28, 3) := by decide +kernel
theorem dX3_init_34 : decode cX3_init 34 = .ok (.aload_n 0, 1) := by decide +kernel
theorem dX3_init_35 : decode cX3_init 35 = .ok (.iconst 0, 1) := by decide +kernel
theorem dX3_init_36 : decode cX3_init 36 = .ok (.putfield 31, 3) := by decide +kernel
theorem dX3_init_39 : decode cX3_init 39 = .ok (.aload_n 0, 1) := by decide +kernel
theorem dX3_init_40 : decode cX3_init 40 = .ok (.aconst_null, 1) := by decide +kernel
theorem dX3_init_41 : decode cX3_init 41 = .ok (.putfield 34, 3) := by decide +kernel
theorem dX3_init_44 : decode cX3_init 44 = .ok (.aload_n 0, 1) := by decide +kernel
theorem dX3_init_45 : decode cX3_init 45 = .ok (.iload_n 1, 1) := by decide +kernel
theorem dX3_init_46 : decode cX3_init 46 = .ok (.putfield 38, 3) := by decide +kernel
theorem dX3_init_49 : decode cX3_init 49 = .ok (.aload_n 0, 1) := by decide +kernel
theorem dX3_init_50 : decode cX3_init 50 = .ok (.iload_n 2, 1) := by decide +kernel
theorem dX3_init_51 : decode cX3_init 51 = .ok (.putfield 41, 3) := by decide +kernel
theorem dX3_init_54 : decode cX3_init 54 = .ok (.aload_n 0, 1) := by decide +kernel
theorem dX3_init_55 : decode cX3_init 55 = .ok (.iload_n 3, 1) := by decide +kernel
theorem dX3_init_56 : decode cX3_init 56 = .ok (.putfield 44, 3) := by decide +kernel
theorem dX3_init_59 : decode cX3_init 59 = .ok (.aload_n 0, 1) := by decide +kernel
theorem dX3_init_60 : decode cX3_init 60 = .ok (.iload 4, 2) := by decide +kernel
theorem dX3_init_62 : decode cX3_init 62 = .ok (.putfield 47, 3) := by decide +kernel
theorem dX3_init_65 : decode cX3_init 65 = .ok (.return_, 1) := by decide +kernel
theorem dX3_canBeFound_0 : decode cX3_canBeFound 0 = .ok (.aload_n 0, 1) := by decide +kernel
theorem dX3_canBeFound_1 : decode cX3_canBeFound 1 = .ok (.getfield 15, 3) := by decide +kernel
theorem dX3_canBeFound_4 : decode cX3_canBeFound 4 = .ok (.ifCond .eq 18, 3) := by decide +kernel
theorem dX3_canBeFound_7 : decode cX3_canBeFound 7 = .ok (.aload_n 0, 1) := by decide +kernel
theorem dX3_canBeFound_8 : decode cX3_canBeFound 8 = .ok (.getfield 25, 3) := by decide +kernel
theorem dX3_canBeFound_11 : decode cX3_canBeFound 11 = .ok (.aload_n 0, 1) := by decide +kernel
theorem dX3_canBeFound_12 : decode cX3_canBeFound 12 = .ok (.getfield 22, 3) := by decide +kernel
theorem dX3_canBeFound_15 : decode cX3_canBeFound 15 = .ok (.if_icmp .ne 7, 3) := by decide +kernel
theorem dX3_canBeFound_18 : decode cX3_canBeFound 18 = .ok (.iconst 1, 1) := by decide +kernel
theorem dX3_canBeFound_19 : decode cX3_canBeFound 19 = .ok (.goto 4, 3) := by decide +kernel
theorem dX3_canBeFound_22 : decode cX3_canBeFound 22 = .ok (.iconst 0, 1) := by decide +kernel
theorem dX3_canBeFound_23 : decode cX3_canBeFound 23 = .ok (.ireturn, 1) := by decide +kernel
theorem dX3_openTicketNumber_0 : decode cX3_openTicketNumber 0 = .ok (.aload_n 0, 1) := by decide +kernel
theorem dX3_openTicketNumber_1 : decode cX3_openTicketNumber 1 = .ok (.getfield 34, 3) := by decide +kernel
theorem dX3_openTicketNumber_4 : decode cX3_openTicketNumber 4 = .ok (.ifnonnull 7, 3) := by decide +kernel
theorem dX3_openTicketNumber_7 : decode cX3_openTicketNumber 7 = .ok (.iconst (-1), 1) := by decide +kernel
theorem dX3_openTicketNumber_8 : decode cX3_openTicketNumber 8 = .ok (.goto 10, 3) := by decide +kernel
theorem dX3_openTicketNumber_11 : decode cX3_openTicketNumber 11 = .ok (.aload_n 0, 1) := by decide +kernel
theorem dX3_openTicketNumber_12 : decode cX3_openTicketNumber 12 = .ok (.getfield 34, 3) := by decide +kernel
theorem dX3_openTicketNumber_15 : decode cX3_openTicketNumber 15 = .ok (.getfield 50, 3) := by decide +kernel
theorem dX3_openTicketNumber_18 : decode cX3_openTicketNumber 18 = .ok (.ireturn, 1) := by decide +kernel
theorem dX3_store_0 : decode cX3_store 0 = .ok (.aload_n 0, 1) := by decide +kernel
theorem dX3_store_1 : decode cX3_store 1 = .ok (.iconst 1, 1) := by decide +kernel
theorem dX3_store_2 : decode cX3_store 2 = .ok (.putfield 15, 3) := by decide +kernel
theorem dX3_store_5 : decode cX3_store 5 = .ok (.aload_n 0, 1) := by decide +kernel
theorem dX3_store_6 : decode cX3_store 6 = .ok (.aload_n 1, 1) := by decide +kernel
theorem dX3_store_7 : decode cX3_store 7 = .ok (.putfield 34, 3) := by decide +kernel
theorem dX3_store_10 : decode cX3_store 10 = .ok (.aload_n 0, 1) := by decide +kernel
theorem dX3_store_11 : decode cX3_store 11 = .ok (.iload_n 2, 1) := by decide +kernel
theorem dX3_store_12 : decode cX3_store 12 = .ok (.putfield 22, 3) := by decide +kernel
theorem dX3_store_15 : decode cX3_store 15 = .ok (.aload_n 0, 1) := by decide +kernel
theorem dX3_store_16 : decode cX3_store 16 = .ok (.iload_n 2, 1) := by decide +kernel
theorem dX3_store_17 : decode cX3_store 17 = .ok (.putfield 25, 3) := by decide +kernel
theorem dX3_store_20 : decode cX3_store 20 = .ok (.aload_n 0, 1) := by decide +kernel
theorem dX3_store_21 : decode cX3_store 21 = .ok (.iload_n 3, 1) := by decide +kernel
theorem dX3_store_22 : decode cX3_store 22 = .ok (.putfield 28, 3) := by decide +kernel
theorem dX3_store_25 : decode cX3_store 25 = .ok (.aload_n 0, 1) := by decide +kernel
theorem dX3_store_26 : decode cX3_store 26 = .ok (.iload_n 3, 1) := by decide +kernel
theorem dX3_store_27 : decode cX3_store 27 = .ok (.putfield 31, 3) := by decide +kernel
theorem dX3_store_30 : decode cX3_store 30 = .ok (.return_, 1) := by decide +kernel
theorem dX3_leave_0 : decode cX3_leave 0 = .ok (.aload_n 0, 1) := by decide +kernel
theorem dX3_leave_1 : decode cX3_leave 1 = .ok (.iconst 0, 1) := by decide +kernel
theorem dX3_leave_2 : decode cX3_leave 2 = .ok (.putfield 15, 3) := by decide +kernel
theorem dX3_leave_5 : decode cX3_leave 5 = .ok (.aload_n 0, 1) := by decide +kernel
theorem dX3_leave_6 : decode cX3_leave 6 = .ok (.aconst_null, 1) := by decide +kernel
theorem dX3_leave_7 : decode cX3_leave 7 = .ok (.putfield 34, 3) := by decide +kernel
theorem dX3_leave_10 : decode cX3_leave 10 = .ok (.aload_n 0, 1) := by decide +kernel
theorem dX3_leave_11 : decode cX3_leave 11 = .ok (.iconst (-1), 1) := by decide +kernel
theorem dX3_leave_12 : decode cX3_leave 12 = .ok (.putfield 22, 3) := by decide +kernel
theorem dX3_leave_15 : decode cX3_leave 15 = .ok (.aload_n 0, 1) := by decide +kernel
theorem dX3_leave_16 : decode cX3_leave 16 = .ok (.iconst (-1), 1) := by decide +kernel
theorem dX3_leave_17 : decode cX3_leave 17 = .ok (.putfield 25, 3) := by decide +kernel
theorem dX3_leave_20 : decode cX3_leave 20 = .ok (.return_, 1) := by decide +kernel
theorem dX3_comeTo_0 : decode cX3_comeTo 0 = .ok (.aload_n 0, 1) := by decide +kernel
theorem dX3_comeTo_1 : decode cX3_comeTo 1 = .ok (.getfield 25, 3) := by decide +kernel
theorem dX3_comeTo_4 : decode cX3_comeTo 4 = .ok (.iload_n 1, 1) := by decide +kernel
theorem dX3_comeTo_5 : decode cX3_comeTo 5 = .ok (.if_icmp .eq 13, 3) := by decide +kernel
theorem dX3_comeTo_8 : decode cX3_comeTo 8 = .ok (.aload_n 0, 1) := by decide +kernel
theorem dX3_comeTo_9 : decode cX3_comeTo 9 = .ok (.iload_n 1, 1) := by decide +kernel
theorem dX3_comeTo_10 : decode cX3_comeTo 10 = .ok (.putfield 25, 3) := by decide +kernel
theorem dX3_comeTo_13 : decode cX3_comeTo 13 = .ok (.aload_n 0, 1) := by decide +kernel
theorem dX3_comeTo_14 : decode cX3_comeTo 14 = .ok (.iload_n 2, 1) := by decide +kernel
theorem dX3_comeTo_15 : decode cX3_comeTo 15 = .ok (.putfield 28, 3) := by decide +kernel
theorem dX3_comeTo_18 : decode cX3_comeTo 18 = .ok (.return_, 1) := by decide +kernel
theorem dX3_wearOn_0 : decode cX3_wearOn 0 = .ok (.aload_n 0, 1) := by decide +kernel
theorem dX3_wearOn_1 : decode cX3_wearOn 1 = .ok (.getfield 15, 3) := by decide +kernel
theorem dX3_wearOn_4 : decode cX3_wearOn 4 = .ok (.ifCond .eq 38, 3) := by decide +kernel
theorem dX3_wearOn_7 : decode cX3_wearOn 7 = .ok (.aload_n 0, 1) := by decide +kernel
theorem dX3_wearOn_8 : decode cX3_wearOn 8 = .ok (.getfield 9, 3) := by decide +kernel
theorem dX3_wearOn_11 : decode cX3_wearOn 11 = .ok (.bipush 10, 2) := by decide +kernel
theorem dX3_wearOn_13 : decode cX3_wearOn 13 = .ok (.if_icmp .ge 29, 3) := by decide +kernel
theorem dX3_wearOn_16 : decode cX3_wearOn 16 = .ok (.aload_n 0, 1) := by decide +kernel
theorem dX3_wearOn_17 : decode cX3_wearOn 17 = .ok (.iload_n 1, 1) := by decide +kernel
theorem dX3_wearOn_18 : decode cX3_wearOn 18 = .ok (.invokevirtual 53, 3) := by decide +kernel
theorem dX3_wearOn_21 : decode cX3_wearOn 21 = .ok (.ifCond .ne 11, 3) := by decide +kernel
theorem dX3_wearOn_24 : decode cX3_wearOn 24 = .ok (.aload_n 0, 1) := by decide +kernel
theorem dX3_wearOn_25 : decode cX3_wearOn 25 = .ok (.iload_n 1, 1) := by decide +kernel
theorem dX3_wearOn_26 : decode cX3_wearOn 26 = .ok (.invokevirtual 57, 3) := by decide +kernel
theorem dX3_wearOn_29 : decode cX3_wearOn 29 = .ok (.ifCond .eq 13, 3) := by decide +kernel
theorem dX3_wearOn_32 : decode cX3_wearOn 32 = .ok (.aload_n 0, 1) := by decide +kernel
theorem dX3_wearOn_33 : decode cX3_wearOn 33 = .ok (.dup, 1) := by decide +kernel
theorem dX3_wearOn_34 : decode cX3_wearOn 34 = .ok (.getfield 9, 3) := by decide +kernel
theorem dX3_wearOn_37 : decode cX3_wearOn 37 = .ok (.iconst 1, 1) := by decide +kernel
theorem dX3_wearOn_38 : decode cX3_wearOn 38 = .ok (.iadd, 1) := by decide +kernel
theorem dX3_wearOn_39 : decode cX3_wearOn 39 = .ok (.putfield 9, 3) := by decide +kernel
theorem dX3_wearOn_42 : decode cX3_wearOn 42 = .ok (.return_, 1) := by decide +kernel
theorem dX3_furWearsOn_0 : decode cX3_furWearsOn 0 = .ok (.aload_n 0, 1) := by decide +kernel
theorem dX3_furWearsOn_1 : decode cX3_furWearsOn 1 = .ok (.getfield 41, 3) := by decide +kernel
theorem dX3_furWearsOn_4 : decode cX3_furWearsOn 4 = .ok (.iconst 1, 1) := by decide +kernel
theorem dX3_furWearsOn_5 : decode cX3_furWearsOn 5 = .ok (.if_icmp .ne 28, 3) := by decide +kernel
theorem dX3_furWearsOn_8 : decode cX3_furWearsOn 8 = .ok (.aload_n 0, 1) := by decide +kernel
theorem dX3_furWearsOn_9 : decode cX3_furWearsOn 9 = .ok (.getfield 25, 3) := by decide +kernel
theorem dX3_furWearsOn_12 : decode cX3_furWearsOn 12 = .ok (.iconst 4, 1) := by decide +kernel
theorem dX3_furWearsOn_13 : decode cX3_furWearsOn 13 = .ok (.irem, 1) := by decide +kernel
theorem dX3_furWearsOn_14 : decode cX3_furWearsOn 14 = .ok (.ifCond .eq 19, 3) := by decide +kernel
theorem dX3_furWearsOn_17 : decode cX3_furWearsOn 17 = .ok (.iload_n 1, 1) := by decide +kernel
theorem dX3_furWearsOn_18 : decode cX3_furWearsOn 18 = .ok (.aload_n 0, 1) := by decide +kernel
theorem dX3_furWearsOn_19 : decode cX3_furWearsOn 19 = .ok (.getfield 28, 3) := by decide +kernel
theorem dX3_furWearsOn_22 : decode cX3_furWearsOn 22 = .ok (.isub, 1) := by decide +kernel
theorem dX3_furWearsOn_23 : decode cX3_furWearsOn 23 = .ok (.bipush 60, 2) := by decide +kernel
theorem dX3_furWearsOn_25 : decode cX3_furWearsOn 25 = .ok (.irem, 1) := by decide +kernel
theorem dX3_furWearsOn_26 : decode cX3_furWearsOn 26 = .ok (.ifCond .ne 7, 3) := by decide +kernel
theorem dX3_furWearsOn_29 : decode cX3_furWearsOn 29 = .ok (.iconst 1, 1) := by decide +kernel
theorem dX3_furWearsOn_30 : decode cX3_furWearsOn 30 = .ok (.goto 4, 3) := by decide +kernel
theorem dX3_furWearsOn_33 : decode cX3_furWearsOn 33 = .ok (.iconst 0, 1) := by decide +kernel
theorem dX3_furWearsOn_34 : decode cX3_furWearsOn 34 = .ok (.ireturn, 1) := by decide +kernel
theorem dX3_clockWearsOn_0 : decode cX3_clockWearsOn 0 = .ok (.aload_n 0, 1) := by decide +kernel
theorem dX3_clockWearsOn_1 : decode cX3_clockWearsOn 1 = .ok (.getfield 41, 3) := by decide +kernel
theorem dX3_clockWearsOn_4 : decode cX3_clockWearsOn 4 = .ok (.iconst 2, 1) := by decide +kernel
theorem dX3_clockWearsOn_5 : decode cX3_clockWearsOn 5 = .ok (.if_icmp .ne 19, 3) := by decide +kernel
theorem dX3_clockWearsOn_8 : decode cX3_clockWearsOn 8 = .ok (.iload_n 1, 1) := by decide +kernel
theorem dX3_clockWearsOn_9 : decode cX3_clockWearsOn 9 = .ok (.aload_n 0, 1) := by decide +kernel
theorem dX3_clockWearsOn_10 : decode cX3_clockWearsOn 10 = .ok (.getfield 31, 3) := by decide +kernel
theorem dX3_clockWearsOn_13 : decode cX3_clockWearsOn 13 = .ok (.isub, 1) := by decide +kernel
theorem dX3_clockWearsOn_14 : decode cX3_clockWearsOn 14 = .ok (.bipush 90, 2) := by decide +kernel
theorem dX3_clockWearsOn_16 : decode cX3_clockWearsOn 16 = .ok (.irem, 1) := by decide +kernel
theorem dX3_clockWearsOn_17 : decode cX3_clockWearsOn 17 = .ok (.ifCond .ne 7, 3) := by decide +kernel
theorem dX3_clockWearsOn_20 : decode cX3_clockWearsOn 20 = .ok (.iconst 1, 1) := by decide +kernel
theorem dX3_clockWearsOn_21 : decode cX3_clockWearsOn 21 = .ok (.goto 4, 3) := by decide +kernel
theorem dX3_clockWearsOn_24 : decode cX3_clockWearsOn 24 = .ok (.iconst 0, 1) := by decide +kernel
theorem dX3_clockWearsOn_25 : decode cX3_clockWearsOn 25 = .ok (.ireturn, 1) := by decide +kernel
theorem dX4_init_0 : decode cX4_init 0 = .ok (.aload_n 0, 1) := by decide +kernel
theorem dX4_init_1 : decode cX4_init 1 = .ok (.invokespecial 3, 3) := by decide +kernel
theorem dX4_init_4 : decode cX4_init 4 = .ok (.aload_n 0, 1) := by decide +kernel
theorem dX4_init_5 : decode cX4_init 5 = .ok (.iconst 0, 1) := by decide +kernel
theorem dX4_init_6 : decode cX4_init 6 = .ok (.putfield 9, 3) := by decide +kernel
theorem dX4_init_9 : decode cX4_init 9 = .ok (.aload_n 0, 1) := by decide +kernel
theorem dX4_init_10 : decode cX4_init 10 = .ok (.iconst 0, 1) := by decide +kernel
theorem dX4_init_11 : decode cX4_init 11 = .ok (.putfield 15, 3) := by decide +kernel
theorem dX4_init_14 : decode cX4_init 14 = .ok (.aload_n 0, 1) := by decide +kernel
theorem dX4_init_15 : decode cX4_init 15 = .ok (.iconst 0, 1) := by decide +kernel
theorem dX4_init_16 : decode cX4_init 16 = .ok (.putfield 18, 3) := by decide +kernel
theorem dX4_init_19 : decode cX4_init 19 = .ok (.aload_n 0, 1) := by decide +kernel
theorem dX4_init_20 : decode cX4_init 20 = .ok (.iconst (-1), 1) := by decide +kernel
theorem dX4_init_21 : decode cX4_init 21 = .ok (.putfield 21, 3) := by decide +kernel
theorem dX4_init_24 : decode cX4_init 24 = .ok (.aload_n 0, 1) := by decide +kernel
theorem dX4_init_25 : decode cX4_init 25 = .ok (.iconst 0, 1) := by decide +kernel
theorem dX4_init_26 : decode cX4_init 26 = .ok (.putfield 24, 3) := by decide +kernel
theorem dX4_init_29 : decode cX4_init 29 = .ok (.aload_n 0, 1) := by decide +kernel
theorem dX4_init_30 : decode cX4_init 30 = .ok (.iconst 0, 1) := by decide +kernel
theorem dX4_init_31 : decode cX4_init 31 = .ok (.putfield 27, 3) := by decide +kernel
theorem dX4_init_34 : decode cX4_init 34 = .ok (.aload_n 0, 1) := by decide +kernel
theorem dX4_init_35 : decode cX4_init 35 = .ok (.iconst 0, 1) := by decide +kernel
theorem dX4_init_36 : decode cX4_init 36 = .ok (.putfield 30, 3) := by decide +kernel
theorem dX4_init_39 : decode cX4_init 39 = .ok (.aload_n 0, 1) := by decide +kernel
theorem dX4_init_40 : decode cX4_init 40 = .ok (.iconst 0, 1) := by decide +kernel
theorem dX4_init_41 : decode cX4_init 41 = .ok (.putfield 33, 3) := by decide +kernel
theorem dX4_init_44 : decode cX4_init 44 = .ok (.aload_n 0, 1) := by decide +kernel
theorem dX4_init_45 : decode cX4_init 45 = .ok (.iload_n 1, 1) := by decide +kernel
theorem dX4_init_46 : decode cX4_init 46 = .ok (.putfield 36, 3) := by decide +kernel
theorem dX4_init_49 : decode cX4_init 49 = .ok (.aload_n 0, 1) := by decide +kernel
theorem dX4_init_50 : decode cX4_init 50 = .ok (.aload_n 2, 1) := by decide +kernel
theorem dX4_init_51 : decode cX4_init 51 = .ok (.putfield 39, 3) := by decide +kernel
theorem dX4_init_54 : decode cX4_init 54 = .ok (.aload_n 0, 1) := by decide +kernel
theorem dX4_init_55 : decode cX4_init 55 = .ok (.iload_n 3, 1) := by decide +kernel
theorem dX4_init_56 : decode cX4_init 56 = .ok (.putfield 43, 3) := by decide +kernel
theorem dX4_init_59 : decode cX4_init 59 = .ok (.aload_n 0, 1) := by decide +kernel
theorem dX4_init_60 : decode cX4_init 60 = .ok (.iload_n 3, 1) := by decide +kernel
theorem dX4_init_61 : decode cX4_init 61 = .ok (.putfield 46, 3) := by decide +kernel
theorem dX4_init_64 : decode cX4_init 64 = .ok (.aload_n 0, 1) := by decide +kernel
theorem dX4_init_65 : decode cX4_init 65 = .ok (.iload 4, 2) := by decide +kernel
theorem dX4_init_67 : decode cX4_init 67 = .ok (.putfield 49, 3) := by decide +kernel
theorem dX4_init_70 : decode cX4_init 70 = .ok (.aload_n 0, 1) := by decide +kernel
theorem dX4_init_71 : decode cX4_init 71 = .ok (.aload 5, 2) := by decide +kernel
theorem dX4_init_73 : decode cX4_init 73 = .ok (.putfield 53, 3) := by decide +kernel
theorem dX4_init_76 : decode cX4_init 76 = .ok (.aload_n 0, 1) := by decide +kernel
theorem dX4_init_77 : decode cX4_init 77 = .ok (.iload 6, 2) := by decide +kernel
theorem dX4_init_79 : decode cX4_init 79 = .ok (.putfield 57, 3) := by decide +kernel
theorem dX4_init_82 : decode cX4_init 82 = .ok (.aload_n 0, 1) := by decide +kernel
theorem dX4_init_83 : decode cX4_init 83 = .ok (.iload 7, 2) := by decide +kernel
theorem dX4_init_85 : decode cX4_init 85 = .ok (.putfield 60, 3) := by decide +kernel
theorem dX4_init_88 : decode cX4_init 88 = .ok (.return_, 1) := by decide +kernel
theorem dX4_begin_0 : decode cX4_begin 0 = .ok (.aload_n 0, 1) := by decide +kernel
theorem dX4_begin_1 : decode cX4_begin 1 = .ok (.iload_n 1, 1) := by decide +kernel
theorem dX4_begin_2 : decode cX4_begin 2 = .ok (.putfield 15, 3) := by decide +kernel
theorem dX4_begin_5 : decode cX4_begin 5 = .ok (.aload_n 0, 1) := by decide +kernel
theorem dX4_begin_6 : decode cX4_begin 6 = .ok (.iload_n 2, 1) := by decide +kernel
theorem dX4_begin_7 : decode cX4_begin 7 = .ok (.putfield 18, 3) := by decide +kernel
theorem dX4_begin_10 : decode cX4_begin 10 = .ok (.return_, 1) := by decide +kernel
theorem dX4_lastDay_0 : decode cX4_lastDay 0 = .ok (.aload_n 0, 1) := by decide +kernel
theorem dX4_lastDay_1 : decode cX4_lastDay 1 = .ok (.getfield 15, 3) := by decide +kernel
theorem dX4_lastDay_4 : decode cX4_lastDay 4 = .ok (.aload_n 0, 1) := by decide +kernel
theorem dX4_lastDay_5 : decode cX4_lastDay 5 = .ok (.getfield 18, 3) := by decide +kernel
theorem dX4_lastDay_8 : decode cX4_lastDay 8 = .ok (.iadd, 1) := by decide +kernel
theorem dX4_lastDay_9 : decode cX4_lastDay 9 = .ok (.ireturn, 1) := by decide +kernel
theorem dX4_close_0 : decode cX4_close 0 = .ok (.aload_n 0, 1) := by decide +kernel
theorem dX4_close_1 : decode cX4_close 1 = .ok (.iload_n 1, 1) := by decide +kernel
theorem dX4_close_2 : decode cX4_close 2 = .ok (.putfield 9, 3) := by decide +kernel
theorem dX4_close_5 : decode cX4_close 5 = .ok (.aload_n 0, 1) := by decide +kernel
theorem dX4_close_6 : decode cX4_close 6 = .ok (.getfield 39, 3) := by decide +kernel
theorem dX4_close_9 : decode cX4_close 9 = .ok (.invokevirtual 63, 3) := by decide +kernel
theorem dX4_close_12 : decode cX4_close 12 = .ok (.return_, 1) := by decide +kernel
theorem dX4_isOpenOrSold_0 : decode cX4_isOpenOrSold 0 = .ok (.aload_n 0, 1) := by decide +kernel
theorem dX4_isOpenOrSold_1 : decode cX4_isOpenOrSold 1 = .ok (.getfield 9, 3) := by decide +kernel
theorem dX4_isOpenOrSold_4 : decode cX4_isOpenOrSold 4 = .ok (.ifCond .eq 11, 3) := by decide +kernel
theorem dX4_isOpenOrSold_7 : decode cX4_isOpenOrSold 7 = .ok (.aload_n 0, 1) := by decide +kernel
theorem dX4_isOpenOrSold_8 : decode cX4_isOpenOrSold 8 = .ok (.getfield 9, 3) := by decide +kernel
theorem dX4_isOpenOrSold_11 : decode cX4_isOpenOrSold 11 = .ok (.iconst 2, 1) := by decide +kernel
theorem dX4_isOpenOrSold_12 : decode cX4_isOpenOrSold 12 = .ok (.if_icmp .ne 7, 3) := by decide +kernel
theorem dX4_isOpenOrSold_15 : decode cX4_isOpenOrSold 15 = .ok (.iconst 1, 1) := by decide +kernel
theorem dX4_isOpenOrSold_16 : decode cX4_isOpenOrSold 16 = .ok (.goto 4, 3) := by decide +kernel
theorem dX4_isOpenOrSold_19 : decode cX4_isOpenOrSold 19 = .ok (.iconst 0, 1) := by decide +kernel
theorem dX4_isOpenOrSold_20 : decode cX4_isOpenOrSold 20 = .ok (.ireturn, 1) := by decide +kernel
theorem dX4_hasNotice_0 : decode cX4_hasNotice 0 = .ok (.aload_n 0, 1) := by decide +kernel
theorem dX4_hasNotice_1 : decode cX4_hasNotice 1 = .ok (.getfield 21, 3) := by decide +kernel
theorem dX4_hasNotice_4 : decode cX4_hasNotice 4 = .ok (.iconst (-1), 1) := by decide +kernel
theorem dX4_hasNotice_5 : decode cX4_hasNotice 5 = .ok (.if_icmp .eq 7, 3) := by decide +kernel
theorem dX4_hasNotice_8 : decode cX4_hasNotice 8 = .ok (.iconst 1, 1) := by decide +kernel
theorem dX4_hasNotice_9 : decode cX4_hasNotice 9 = .ok (.goto 4, 3) := by decide +kernel
theorem dX4_hasNotice_12 : decode cX4_hasNotice 12 = .ok (.iconst 0, 1) := by decide +kernel
theorem dX4_hasNotice_13 : decode cX4_hasNotice 13 = .ok (.ireturn, 1) := by decide +kernel
theorem dX4_isBarredByList_0 : decode cX4_isBarredByList 0 = .ok (.aload_n 0, 1) := by decide +kernel
theorem dX4_isBarredByList_1 : decode cX4_isBarredByList 1 = .ok (.getfield 9, 3) := by decide +kernel
theorem dX4_isBarredByList_4 : decode cX4_isBarredByList 4 = .ok (.ifCond .ne 17, 3) := by decide +kernel
theorem dX4_isBarredByList_7 : decode cX4_isBarredByList 7 = .ok (.aload_n 0, 1) := by decide +kernel
theorem dX4_isBarredByList_8 : decode cX4_isBarredByList 8 = .ok (.getfield 39, 3) := by decide +kernel
theorem dX4_isBarredByList_11 : decode cX4_isBarredByList 11 = .ok (.getfield 68, 3) := by decide +kernel
theorem dX4_isBarredByList_14 : decode cX4_isBarredByList 14 = .ok (.ifCond .eq 7, 3) := by decide +kernel
theorem dX4_isBarredByList_17 : decode cX4_isBarredByList 17 = .ok (.iconst 1, 1) := by decide +kernel
theorem dX4_isBarredByList_18 : decode cX4_isBarredByList 18 = .ok (.goto 4, 3) := by decide +kernel
theorem dX4_isBarredByList_21 : decode cX4_isBarredByList 21 = .ok (.iconst 0, 1) := by decide +kernel
theorem dX4_isBarredByList_22 : decode cX4_isBarredByList 22 = .ok (.ireturn, 1) := by decide +kernel
theorem dX4_isBarred_0 : decode cX4_isBarred 0 = .ok (.aload_n 0, 1) := by decide +kernel
theorem dX4_isBarred_1 : decode cX4_isBarred 1 = .ok (.invokevirtual 71, 3) := by decide +kernel
theorem dX4_isBarred_4 : decode cX4_isBarred 4 = .ok (.ifCond .ne 10, 3) := by decide +kernel
theorem dX4_isBarred_7 : decode cX4_isBarred 7 = .ok (.aload_n 0, 1) := by decide +kernel
theorem dX4_isBarred_8 : decode cX4_isBarred 8 = .ok (.invokevirtual 75, 3) := by decide +kernel
theorem dX4_isBarred_11 : decode cX4_isBarred 11 = .ok (.ifCond .eq 7, 3) := by decide +kernel
theorem dX4_isBarred_14 : decode cX4_isBarred 14 = .ok (.iconst 1, 1) := by decide +kernel
theorem dX4_isBarred_15 : decode cX4_isBarred 15 = .ok (.goto 4, 3) := by decide +kernel
theorem dX4_isBarred_18 : decode cX4_isBarred 18 = .ok (.iconst 0, 1) := by decide +kernel
theorem dX4_isBarred_19 : decode cX4_isBarred 19 = .ok (.ireturn, 1) := by decide +kernel
theorem dX4_endNoticeOn_0 : decode cX4_endNoticeOn 0 = .ok (.aload_n 0, 1) := by decide +kernel
theorem dX4_endNoticeOn_1 : decode cX4_endNoticeOn 1 = .ok (.invokevirtual 71, 3) := by decide +kernel
theorem dX4_endNoticeOn_4 : decode cX4_endNoticeOn 4 = .ok (.ifCond .eq 27, 3) := by decide +kernel
theorem dX4_endNoticeOn_7 : decode cX4_endNoticeOn 7 = .ok (.iload_n 1, 1) := by decide +kernel
theorem dX4_endNoticeOn_8 : decode cX4_endNoticeOn 8 = .ok (.aload_n 0, 1) := by decide +kernel
theorem dX4_endNoticeOn_9 : decode cX4_endNoticeOn 9 = .ok (.getfield 24, 3) := by decide +kernel
theorem dX4_endNoticeOn_12 : decode cX4_endNoticeOn 12 = .ok (.isub, 1) := by decide +kernel
theorem dX4_endNoticeOn_13 : decode cX4_endNoticeOn 13 = .ok (.bipush 28, 2) := by decide +kernel
theorem dX4_endNoticeOn_15 : decode cX4_endNoticeOn 15 = .ok (.if_icmp .lt 16, 3) := by decide +kernel
theorem dX4_endNoticeOn_18 : decode cX4_endNoticeOn 18 = .ok (.aload_n 0, 1) := by decide +kernel
theorem dX4_endNoticeOn_19 : decode cX4_endNoticeOn 19 = .ok (.aload_n 0, 1) := by decide +kernel
theorem dX4_endNoticeOn_20 : decode cX4_endNoticeOn 20 = .ok (.getfield 21, 3) := by decide +kernel
theorem dX4_endNoticeOn_23 : decode cX4_endNoticeOn 23 = .ok (.putfield 46, 3) := by decide +kernel
theorem dX4_endNoticeOn_26 : decode cX4_endNoticeOn 26 = .ok (.aload_n 0, 1) := by decide +kernel
theorem dX4_endNoticeOn_27 : decode cX4_endNoticeOn 27 = .ok (.iconst (-1), 1) := by decide +kernel
theorem dX4_endNoticeOn_28 : decode cX4_endNoticeOn 28 = .ok (.putfield 21, 3) := by decide +kernel
theorem dX4_endNoticeOn_31 : decode cX4_endNoticeOn 31 = .ok (.return_, 1) := by decide +kernel
theorem dX4_surplusEndsOn_0 : decode cX4_surplusEndsOn 0 = .ok (.aload_n 0, 1) := by decide +kernel
theorem dX4_surplusEndsOn_1 : decode cX4_surplusEndsOn 1 = .ok (.getfield 30, 3) := by decide +kernel
theorem dX4_surplusEndsOn_4 : decode cX4_surplusEndsOn 4 = .ok (.ifCond .le 19, 3) := by decide +kernel
theorem dX4_surplusEndsOn_7 : decode cX4_surplusEndsOn 7 = .ok (.iload_n 1, 1) := by decide +kernel
theorem dX4_surplusEndsOn_8 : decode cX4_surplusEndsOn 8 = .ok (.aload_n 0, 1) := by decide +kernel
theorem dX4_surplusEndsOn_9 : decode cX4_surplusEndsOn 9 = .ok (.getfield 33, 3) := by decide +kernel
theorem dX4_surplusEndsOn_12 : decode cX4_surplusEndsOn 12 = .ok (.isub, 1) := by decide +kernel
theorem dX4_surplusEndsOn_13 : decode cX4_surplusEndsOn 13 = .ok (.sipush 1000, 3) := by decide +kernel
theorem dX4_surplusEndsOn_16 : decode cX4_surplusEndsOn 16 = .ok (.if_icmp .le 7, 3) := by decide +kernel
theorem dX4_surplusEndsOn_19 : decode cX4_surplusEndsOn 19 = .ok (.iconst 1, 1) := by decide +kernel
theorem dX4_surplusEndsOn_20 : decode cX4_surplusEndsOn 20 = .ok (.goto 4, 3) := by decide +kernel
theorem dX4_surplusEndsOn_23 : decode cX4_surplusEndsOn 23 = .ok (.iconst 0, 1) := by decide +kernel
theorem dX4_surplusEndsOn_24 : decode cX4_surplusEndsOn 24 = .ok (.ireturn, 1) := by decide +kernel
theorem dX5_init_0 : decode cX5_init 0 = .ok (.aload_n 0, 1) := by decide +kernel
theorem dX5_init_1 : decode cX5_init 1 = .ok (.invokespecial 1, 3) := by decide +kernel
theorem dX5_init_4 : decode cX5_init 4 = .ok (.aload_n 0, 1) := by decide +kernel
theorem dX5_init_5 : decode cX5_init 5 = .ok (.iconst 0, 1) := by decide +kernel
theorem dX5_init_6 : decode cX5_init 6 = .ok (.putfield 7, 3) := by decide +kernel
theorem dX5_init_9 : decode cX5_init 9 = .ok (.aload_n 0, 1) := by decide +kernel
theorem dX5_init_10 : decode cX5_init 10 = .ok (.iconst 0, 1) := by decide +kernel
theorem dX5_init_11 : decode cX5_init 11 = .ok (.putfield 13, 3) := by decide +kernel
theorem dX5_init_14 : decode cX5_init 14 = .ok (.aload_n 0, 1) := by decide +kernel
theorem dX5_init_15 : decode cX5_init 15 = .ok (.iconst 0, 1) := by decide +kernel
theorem dX5_init_16 : decode cX5_init 16 = .ok (.putfield 16, 3) := by decide +kernel
theorem dX5_init_19 : decode cX5_init 19 = .ok (.aload_n 0, 1) := by decide +kernel
theorem dX5_init_20 : decode cX5_init 20 = .ok (.sipush 600, 3) := by decide +kernel
theorem dX5_init_23 : decode cX5_init 23 = .ok (.newarray .int, 2) := by decide +kernel
theorem dX5_init_25 : decode cX5_init 25 = .ok (.putfield 19, 3) := by decide +kernel
theorem dX5_init_28 : decode cX5_init 28 = .ok (.aload_n 0, 1) := by decide +kernel
theorem dX5_init_29 : decode cX5_init 29 = .ok (.iconst 0, 1) := by decide +kernel
theorem dX5_init_30 : decode cX5_init 30 = .ok (.putfield 23, 3) := by decide +kernel
theorem dX5_init_33 : decode cX5_init 33 = .ok (.return_, 1) := by decide +kernel
theorem dX5_free_0 : decode cX5_free 0 = .ok (.aload_n 0, 1) := by decide +kernel
theorem dX5_free_1 : decode cX5_free 1 = .ok (.getfield 7, 3) := by decide +kernel
theorem dX5_free_4 : decode cX5_free 4 = .ok (.aload_n 0, 1) := by decide +kernel
theorem dX5_free_5 : decode cX5_free 5 = .ok (.getfield 13, 3) := by decide +kernel
theorem dX5_free_8 : decode cX5_free 8 = .ok (.isub, 1) := by decide +kernel
theorem dX5_free_9 : decode cX5_free 9 = .ok (.ireturn, 1) := by decide +kernel
theorem dX5_move_0 : decode cX5_move 0 = .ok (.aload_n 0, 1) := by decide +kernel
theorem dX5_move_1 : decode cX5_move 1 = .ok (.dup, 1) := by decide +kernel
theorem dX5_move_2 : decode cX5_move 2 = .ok (.getfield 7, 3) := by decide +kernel
theorem dX5_move_5 : decode cX5_move 5 = .ok (.iload_n 1, 1) := by decide +kernel
theorem dX5_move_6 : decode cX5_move 6 = .ok (.iadd, 1) := by decide +kernel
theorem dX5_move_7 : decode cX5_move 7 = .ok (.putfield 7, 3) := by decide +kernel
theorem dX5_move_10 : decode cX5_move 10 = .ok (.aload_n 0, 1) := by decide +kernel
theorem dX5_move_11 : decode cX5_move 11 = .ok (.getfield 23, 3) := by decide +kernel
theorem dX5_move_14 : decode cX5_move 14 = .ok (.aload_n 0, 1) := by decide +kernel
theorem dX5_move_15 : decode cX5_move 15 = .ok (.getfield 19, 3) := by decide +kernel
theorem dX5_move_18 : decode cX5_move 18 = .ok (.arraylength, 1) := by decide +kernel
theorem dX5_move_19 : decode cX5_move 19 = .ok (.if_icmp .ge 26, 3) := by decide +kernel
theorem dX5_move_22 : decode cX5_move 22 = .ok (.aload_n 0, 1) := by decide +kernel
theorem dX5_move_23 : decode cX5_move 23 = .ok (.getfield 19, 3) := by decide +kernel
theorem dX5_move_26 : decode cX5_move 26 = .ok (.aload_n 0, 1) := by decide +kernel
theorem dX5_move_27 : decode cX5_move 27 = .ok (.getfield 23, 3) := by decide +kernel
theorem dX5_move_30 : decode cX5_move 30 = .ok (.iload_n 1, 1) := by decide +kernel
theorem dX5_move_31 : decode cX5_move 31 = .ok (.iastore, 1) := by decide +kernel
theorem dX5_move_32 : decode cX5_move 32 = .ok (.aload_n 0, 1) := by decide +kernel
theorem dX5_move_33 : decode cX5_move 33 = .ok (.dup, 1) := by decide +kernel
theorem dX5_move_34 : decode cX5_move 34 = .ok (.getfield 23, 3) := by decide +kernel
theorem dX5_move_37 : decode cX5_move 37 = .ok (.iconst 1, 1) := by decide +kernel
theorem dX5_move_38 : decode cX5_move 38 = .ok (.iadd, 1) := by decide +kernel
theorem dX5_move_39 : decode cX5_move 39 = .ok (.putfield 23, 3) := by decide +kernel
theorem dX5_move_42 : decode cX5_move 42 = .ok (.goto 19, 3) := by decide +kernel
theorem dX5_move_45 : decode cX5_move 45 = .ok (.aload_n 0, 1) := by decide +kernel
theorem dX5_move_46 : decode cX5_move 46 = .ok (.getfield 19, 3) := by decide +kernel
theorem dX5_move_49 : decode cX5_move 49 = .ok (.aload_n 0, 1) := by decide +kernel
theorem dX5_move_50 : decode cX5_move 50 = .ok (.getfield 19, 3) := by decide +kernel
theorem dX5_move_53 : decode cX5_move 53 = .ok (.arraylength, 1) := by decide +kernel
theorem dX5_move_54 : decode cX5_move 54 = .ok (.iconst 1, 1) := by decide +kernel
theorem dX5_move_55 : decode cX5_move 55 = .ok (.isub, 1) := by decide +kernel
theorem dX5_move_56 : decode cX5_move 56 = .ok (.dup2, 1) := by decide +kernel
theorem dX5_move_57 : decode cX5_move 57 = .ok (.iaload, 1) := by decide +kernel
theorem dX5_move_58 : decode cX5_move 58 = .ok (.iload_n 1, 1) := by decide +kernel
theorem dX5_move_59 : decode cX5_move 59 = .ok (.iadd, 1) := by decide +kernel
theorem dX5_move_60 : decode cX5_move 60 = .ok (.iastore, 1) := by decide +kernel
theorem dX5_move_61 : decode cX5_move 61 = .ok (.return_, 1) := by decide +kernel
theorem dX5_sumOfMoves_0 : decode cX5_sumOfMoves 0 = .ok (.iconst 0, 1) := by decide +kernel
theorem dX5_sumOfMoves_1 : decode cX5_sumOfMoves 1 = .ok (.istore_n 1, 1) := by decide +kernel
theorem dX5_sumOfMoves_2 : decode cX5_sumOfMoves 2 = .ok (.iconst 0, 1) := by decide +kernel
theorem dX5_sumOfMoves_3 : decode cX5_sumOfMoves 3 = .ok (.istore_n 2, 1) := by decide +kernel
theorem dX5_sumOfMoves_4 : decode cX5_sumOfMoves 4 = .ok (.iload_n 2, 1) := by decide +kernel
theorem dX5_sumOfMoves_5 : decode cX5_sumOfMoves 5 = .ok (.aload_n 0, 1) := by decide +kernel
theorem dX5_sumOfMoves_6 : decode cX5_sumOfMoves 6 = .ok (.getfield 23, 3) := by decide +kernel
theorem dX5_sumOfMoves_9 : decode cX5_sumOfMoves 9 = .ok (.if_icmp .ge 18, 3) := by decide +kernel
theorem dX5_sumOfMoves_12 : decode cX5_sumOfMoves 12 = .ok (.iload_n 1, 1) := by decide +kernel
theorem dX5_sumOfMoves_13 : decode cX5_sumOfMoves 13 = .ok (.aload_n 0, 1) := by decide +kernel
theorem dX5_sumOfMoves_14 : decode cX5_sumOfMoves 14 = .ok (.getfield 19, 3) := by decide +kernel
theorem dX5_sumOfMoves_17 : decode cX5_sumOfMoves 17 = .ok (.iload_n 2, 1) := by decide +kernel
theorem dX5_sumOfMoves_18 : decode cX5_sumOfMoves 18 = .ok (.iaload, 1) := by decide +kernel
theorem dX5_sumOfMoves_19 : decode cX5_sumOfMoves 19 = .ok (.iadd, 1) := by decide +kernel
theorem dX5_sumOfMoves_20 : decode cX5_sumOfMoves 20 = .ok (.istore_n 1, 1) := by decide +kernel
theorem dX5_sumOfMoves_21 : decode cX5_sumOfMoves 21 = .ok (.iinc 2 1, 3) := by decide +kernel
theorem dX5_sumOfMoves_24 : decode cX5_sumOfMoves 24 = .ok (.goto (-20), 3) := by decide +kernel
theorem dX5_sumOfMoves_27 : decode cX5_sumOfMoves 27 = .ok (.iload_n 1, 1) := by decide +kernel
theorem dX5_sumOfMoves_28 : decode cX5_sumOfMoves 28 = .ok (.ireturn, 1) := by decide +kernel
theorem dX6_init_0 : decode cX6_init 0 = .ok (.aload_n 0, 1) := by decide +kernel
theorem dX6_init_1 : decode cX6_init 1 = .ok (.invokespecial 1, 3) := by decide +kernel
theorem dX6_init_4 : decode cX6_init 4 = .ok (.aload_n 0, 1) := by decide +kernel
theorem dX6_init_5 : decode cX6_init 5 = .ok (.new 7, 3) := by decide +kernel
theorem dX6_init_8 : decode cX6_init 8 = .ok (.dup, 1) := by decide +kernel
theorem dX6_init_9 : decode cX6_init 9 = .ok (.invokespecial 9, 3) := by decide +kernel
theorem dX6_init_12 : decode cX6_init 12 = .ok (.putfield 10, 3) := by decide +kernel
theorem dX6_init_15 : decode cX6_init 15 = .ok (.aload_n 0, 1) := by decide +kernel
theorem dX6_init_16 : decode cX6_init 16 = .ok (.new 7, 3) := by decide +kernel
theorem dX6_init_19 : decode cX6_init 19 = .ok (.dup, 1) := by decide +kernel
theorem dX6_init_20 : decode cX6_init 20 = .ok (.invokespecial 9, 3) := by decide +kernel
theorem dX6_init_23 : decode cX6_init 23 = .ok (.putfield 16, 3) := by decide +kernel
theorem dX6_init_26 : decode cX6_init 26 = .ok (.aload_n 0, 1) := by decide +kernel
theorem dX6_init_27 : decode cX6_init 27 = .ok (.iconst 4, 1) := by decide +kernel
theorem dX6_init_28 : decode cX6_init 28 = .ok (.newarray .int, 2) := by decide +kernel
theorem dX6_init_30 : decode cX6_init 30 = .ok (.dup, 1) := by decide +kernel
theorem dX6_init_31 : decode cX6_init 31 = .ok (.iconst 0, 1) := by decide +kernel
theorem dX6_init_32 : decode cX6_init 32 = .ok (.bipush 100, 2) := by decide +kernel
theorem dX6_init_34 : decode cX6_init 34 = .ok (.iastore, 1) := by decide +kernel
theorem dX6_init_35 : decode cX6_init 35 = .ok (.dup, 1) := by decide +kernel
theorem dX6_init_36 : decode cX6_init 36 = .ok (.iconst 1, 1) := by decide +kernel
theorem dX6_init_37 : decode cX6_init 37 = .ok (.bipush 100, 2) := by decide +kernel
theorem dX6_init_39 : decode cX6_init 39 = .ok (.iastore, 1) := by decide +kernel
theorem dX6_init_40 : decode cX6_init 40 = .ok (.dup, 1) := by decide +kernel
theorem dX6_init_41 : decode cX6_init 41 = .ok (.iconst 2, 1) := by decide +kernel
theorem dX6_init_42 : decode cX6_init 42 = .ok (.bipush 100, 2) := by decide +kernel
theorem dX6_init_44 : decode cX6_init 44 = .ok (.iastore, 1) := by decide +kernel
theorem dX6_init_45 : decode cX6_init 45 = .ok (.dup, 1) := by decide +kernel
theorem dX6_init_46 : decode cX6_init 46 = .ok (.iconst 3, 1) := by decide +kernel
theorem dX6_init_47 : decode cX6_init 47 = .ok (.bipush 100, 2) := by decide +kernel
theorem dX6_init_49 : decode cX6_init 49 = .ok (.iastore, 1) := by decide +kernel
theorem dX6_init_50 : decode cX6_init 50 = .ok (.putfield 19, 3) := by decide +kernel
theorem dX6_init_53 : decode cX6_init 53 = .ok (.aload_n 0, 1) := by decide +kernel
theorem dX6_init_54 : decode cX6_init 54 = .ok (.iconst 4, 1) := by decide +kernel
theorem dX6_init_55 : decode cX6_init 55 = .ok (.anewarray 23, 3) := by decide +kernel
theorem dX6_init_58 : decode cX6_init 58 = .ok (.dup, 1) := by decide +kernel
theorem dX6_init_59 : decode cX6_init 59 = .ok (.iconst 0, 1) := by decide +kernel
theorem dX6_init_60 : decode cX6_init 60 = .ok (.new 23, 3) := by decide +kernel
theorem dX6_init_63 : decode cX6_init 63 = .ok (.dup, 1) := by decide +kernel
theorem dX6_init_64 : decode cX6_init 64 = .ok (.invokespecial 25, 3) := by decide +kernel
theorem dX6_init_67 : decode cX6_init 67 = .ok (.aastore, 1) := by decide +kernel
theorem dX6_init_68 : decode cX6_init 68 = .ok (.dup, 1) := by decide +kernel
theorem dX6_init_69 : decode cX6_init 69 = .ok (.iconst 1, 1) := by decide +kernel
theorem dX6_init_70 : decode cX6_init 70 = .ok (.new 23, 3) := by decide +kernel
theorem dX6_init_73 : decode cX6_init 73 = .ok (.dup, 1) := by decide +kernel
theorem dX6_init_74 : decode cX6_init 74 = .ok (.invokespecial 25, 3) := by decide +kernel
theorem dX6_init_77 : decode cX6_init 77 = .ok (.aastore, 1) := by decide +kernel
theorem dX6_init_78 : decode cX6_init 78 = .ok (.dup, 1) := by decide +kernel
theorem dX6_init_79 : decode cX6_init 79 = .ok (.iconst 2, 1) := by decide +kernel
theorem dX6_init_80 : decode cX6_init 80 = .ok (.new 23, 3) := by decide +kernel
theorem dX6_init_83 : decode cX6_init 83 = .ok (.dup, 1) := by decide +kernel
theorem dX6_init_84 : decode cX6_init 84 = .ok (.invokespecial 25, 3) := by decide +kernel
theorem dX6_init_87 : decode cX6_init 87 = .ok (.aastore, 1) := by decide +kernel
theorem dX6_init_88 : decode cX6_init 88 = .ok (.dup, 1) := by decide +kernel
theorem dX6_init_89 : decode cX6_init 89 = .ok (.iconst 3, 1) := by decide +kernel
theorem dX6_init_90 : decode cX6_init 90 = .ok (.new 23, 3) := by decide +kernel
theorem dX6_init_93 : decode cX6_init 93 = .ok (.dup, 1) := by decide +kernel
theorem dX6_init_94 : decode cX6_init 94 = .ok (.invokespecial 25, 3) := by decide +kernel
theorem dX6_init_97 : decode cX6_init 97 = .ok (.aastore, 1) := by decide +kernel
theorem dX6_init_98 : decode cX6_init 98 = .ok (.putfield 26, 3) := by decide +kernel
theorem dX6_init_101 : decode cX6_init 101 = .ok (.aload_n 0, 1) := by decide +kernel
theorem dX6_init_102 : decode cX6_init 102 = .ok (.iconst 3, 1) := by decide +kernel
theorem dX6_init_103 : decode cX6_init 103 = .ok (.anewarray 30, 3) := by decide +kernel
theorem dX6_init_106 : decode cX6_init 106 = .ok (.dup, 1) := by decide +kernel
theorem dX6_init_107 : decode cX6_init 107 = .ok (.iconst 0, 1) := by decide +kernel
theorem dX6_init_108 : decode cX6_init 108 = .ok (.new 30, 3) := by decide +kernel
theorem dX6_init_111 : decode cX6_init 111 = .ok (.dup, 1) := by decide +kernel
theorem dX6_init_112 : decode cX6_init 112 = .ok (.iconst 0, 1) := by decide +kernel
theorem dX6_init_113 : decode cX6_init 113 = .ok (.invokespecial 32, 3) := by decide +kernel
theorem dX6_init_116 : decode cX6_init 116 = .ok (.aastore, 1) := by decide +kernel
theorem dX6_init_117 : decode cX6_init 117 = .ok (.dup, 1) := by decide +kernel
theorem dX6_init_118 : decode cX6_init 118 = .ok (.iconst 1, 1) := by decide +kernel
theorem dX6_init_119 : decode cX6_init 119 = .ok (.new 30, 3) := by decide +kernel
theorem dX6_init_122 : decode cX6_init 122 = .ok (.dup, 1) := by decide +kernel
theorem dX6_init_123 : decode cX6_init 123 = .ok (.iconst 1, 1) := by decide +kernel
theorem dX6_init_124 : decode cX6_init 124 = .ok (.invokespecial 32, 3) := by decide +kernel
theorem dX6_init_127 : decode cX6_init 127 = .ok (.aastore, 1) := by decide +kernel
theorem dX6_init_128 : decode cX6_init 128 = .ok (.dup, 1) := by decide +kernel
theorem dX6_init_129 : decode cX6_init 129 = .ok (.iconst 2, 1) := by decide +kernel
theorem dX6_init_130 : decode cX6_init 130 = .ok (.new 30, 3) := by decide +kernel
theorem dX6_init_133 : decode cX6_init 133 = .ok (.dup, 1) := by decide +kernel
theorem dX6_init_134 : decode cX6_init 134 = .ok (.iconst 2, 1) := by decide +kernel
theorem dX6_init_135 : decode cX6_init 135 = .ok (.invokespecial 32, 3) := by decide +kernel
theorem dX6_init_138 : decode cX6_init 138 = .ok (.aastore, 1) := by decide +kernel
theorem dX6_init_139 : decode cX6_init 139 = .ok (.putfield 35, 3) := by decide +kernel
theorem dX6_init_142 : decode cX6_init 142 = .ok (.aload_n 0, 1) := by decide +kernel
theorem dX6_init_143 : decode cX6_init 143 = .ok (.bipush 10, 2) := by decide +kernel
theorem dX6_init_145 : decode cX6_init 145 = .ok (.anewarray 30, 3) := by decide +kernel
theorem dX6_init_148 : decode cX6_init 148 = .ok (.putfield 39, 3) := by decide +kernel
theorem dX6_init_151 : decode cX6_init 151 = .ok (.aload_n 0, 1) := by decide +kernel
theorem dX6_init_152 : decode cX6_init 152 = .ok (.new 42, 3) := by decide +kernel
theorem dX6_init_155 : decode cX6_init 155 = .ok (.dup, 1) := by decide +kernel
theorem dX6_init_156 : decode cX6_init 156 = .ok (.invokespecial 44, 3) := by decide +kernel
theorem dX6_init_159 : decode cX6_init 159 = .ok (.putfield 45, 3) := by decide +kernel
theorem dX6_init_162 : decode cX6_init 162 = .ok (.aload_n 0, 1) := by decide +kernel
theorem dX6_init_163 : decode cX6_init 163 = .ok (.new 49, 3) := by decide +kernel
theorem dX6_init_166 : decode cX6_init 166 = .ok (.dup, 1) := by decide +kernel
theorem dX6_init_167 : decode cX6_init 167 = .ok (.invokespecial 51, 3) := by decide +kernel
theorem dX6_init_170 : decode cX6_init 170 = .ok (.putfield 52, 3) := by decide +kernel
theorem dX6_init_173 : decode cX6_init 173 = .ok (.aload_n 0, 1) := by decide +kernel
theorem dX6_init_174 : decode cX6_init 174 = .ok (.bipush 120, 2) := by decide +kernel
theorem dX6_init_176 : decode cX6_init 176 = .ok (.putfield 56, 3) := by decide +kernel
theorem dX6_init_179 : decode cX6_init 179 = .ok (.aload_n 0, 1) := by decide +kernel
theorem dX6_init_180 : decode cX6_init 180 = .ok (.iconst 0, 1) := by decide +kernel
theorem dX6_init_181 : decode cX6_init 181 = .ok (.putfield 60, 3) := by decide +kernel
theorem dX6_init_184 : decode cX6_init 184 = .ok (.iconst 0, 1) := by decide +kernel
theorem dX6_init_185 : decode cX6_init 185 = .ok (.istore_n 1, 1) := by decide +kernel
theorem dX6_init_186 : decode cX6_init 186 = .ok (.iload_n 1, 1) := by decide +kernel
theorem dX6_init_187 : decode cX6_init 187 = .ok (.aload_n 0, 1) := by decide +kernel
theorem dX6_init_188 : decode cX6_init 188 = .ok (.getfield 39, 3) := by decide +kernel
theorem dX6_init_191 : decode cX6_init 191 = .ok (.arraylength, 1) := by decide +kernel
theorem dX6_init_192 : decode cX6_init 192 = .ok (.if_icmp .ge 21, 3) := by decide +kernel
theorem dX6_init_195 : decode cX6_init 195 = .ok (.aload_n 0, 1) := by decide +kernel
theorem dX6_init_196 : decode cX6_init 196 = .ok (.getfield 39, 3) := by decide +kernel
theorem dX6_init_199 : decode cX6_init 199 = .ok (.iload_n 1, 1) := by decide +kernel
theorem dX6_init_200 : decode cX6_init 200 = .ok (.aload_n 0, 1) := by decide +kernel
theorem dX6_init_201 : decode cX6_init 201 = .ok (.getfield 35, 3) := by decide +kernel
theorem dX6_init_204 : decode cX6_init 204 = .ok (.iconst 0, 1) := by decide +kernel
theorem dX6_init_205 : decode cX6_init 205 = .ok (.aaload, 1) := by decide +kernel
theorem dX6_init_206 : decode cX6_init 206 = .ok (.aastore, 1) := by decide +kernel
theorem dX6_init_207 : decode cX6_init 207 = .ok (.iinc 1 1, 3) := by decide +kernel
theorem dX6_init_210 : decode cX6_init 210 = .ok (.goto (-24), 3) := by decide +kernel
theorem dX6_init_213 : decode cX6_init 213 = .ok (.return_, 1) := by decide +kernel
theorem dX6_thing_0 : decode cX6_thing 0 = .ok (.iload_n 1, 1) := by decide +kernel
theorem dX6_thing_1 : decode cX6_thing 1 = .ok (.aload_n 0, 1) := by decide +kernel
theorem dX6_thing_2 : decode cX6_thing 2 = .ok (.getfield 19, 3) := by decide +kernel
theorem dX6_thing_5 : decode cX6_thing 5 = .ok (.arraylength, 1) := by decide +kernel
theorem dX6_thing_6 : decode cX6_thing 6 = .ok (.invokestatic 63, 3) := by decide +kernel
theorem dX6_thing_9 : decode cX6_thing 9 = .ok (.iload_n 2, 1) := by decide +kernel
theorem dX6_thing_10 : decode cX6_thing 10 = .ok (.iconst 1, 1) := by decide +kernel
theorem dX6_thing_11 : decode cX6_thing 11 = .ok (.bipush 50, 2) := by decide +kernel
theorem dX6_thing_13 : decode cX6_thing 13 = .ok (.invokestatic 67, 3) := by decide +kernel
theorem dX6_thing_16 : decode cX6_thing 16 = .ok (.iload_n 3, 1) := by decide +kernel
theorem dX6_thing_17 : decode cX6_thing 17 = .ok (.bipush 10, 2) := by decide +kernel
theorem dX6_thing_19 : decode cX6_thing 19 = .ok (.sipush 10000, 3) := by decide +kernel
theorem dX6_thing_22 : decode cX6_thing 22 = .ok (.invokestatic 67, 3) := by decide +kernel
theorem dX6_thing_25 : decode cX6_thing 25 = .ok (.aload_n 0, 1) := by decide +kernel
theorem dX6_thing_26 : decode cX6_thing 26 = .ok (.getfield 10, 3) := by decide +kernel
theorem dX6_thing_29 : decode cX6_thing 29 = .ok (.invokevirtual 71, 3) := by decide +kernel
theorem dX6_thing_32 : decode cX6_thing 32 = .ok (.bipush 40, 2) := by decide +kernel
theorem dX6_thing_34 : decode cX6_thing 34 = .ok (.if_icmp .ge 7, 3) := by decide +kernel
theorem dX6_thing_37 : decode cX6_thing 37 = .ok (.iconst 1, 1) := by decide +kernel
theorem dX6_thing_38 : decode cX6_thing 38 = .ok (.goto 4, 3) := by decide +kernel
theorem dX6_thing_41 : decode cX6_thing 41 = .ok (.iconst 0, 1) := by decide +kernel
theorem dX6_thing_42 : decode cX6_thing 42 = .ok (.invokestatic 75, 3) := by decide +kernel
theorem dX6_thing_45 : decode cX6_thing 45 = .ok (.new 79, 3) := by decide +kernel
theorem dX6_thing_48 : decode cX6_thing 48 = .ok (.dup, 1) := by decide +kernel
theorem dX6_thing_49 : decode cX6_thing 49 = .ok (.aload_n 0, 1) := by decide +kernel
theorem dX6_thing_50 : decode cX6_thing 50 = .ok (.getfield 10, 3) := by decide +kernel
theorem dX6_thing_53 : decode cX6_thing 53 = .ok (.invokevirtual 71, 3) := by decide +kernel
theorem dX6_thing_56 : decode cX6_thing 56 = .ok (.iload_n 1, 1) := by decide +kernel
theorem dX6_thing_57 : decode cX6_thing 57 = .ok (.iload_n 2, 1) := by decide +kernel
theorem dX6_thing_58 : decode cX6_thing 58 = .ok (.iload_n 3, 1) := by decide +kernel
theorem dX6_thing_59 : decode cX6_thing 59 = .ok (.invokespecial 81, 3) := by decide +kernel
theorem dX6_thing_62 : decode cX6_thing 62 = .ok (.astore 4, 2) := by decide +kernel
theorem dX6_thing_64 : decode cX6_thing 64 = .ok (.aload_n 0, 1) := by decide +kernel
theorem dX6_thing_65 : decode cX6_thing 65 = .ok (.getfield 10, 3) := by decide +kernel
theorem dX6_thing_68 : decode cX6_thing 68 = .ok (.aload 4, 2) := by decide +kernel
theorem dX6_thing_70 : decode cX6_thing 70 = .ok (.invokevirtual 84, 3) := by decide +kernel
theorem dX6_thing_73 : decode cX6_thing 73 = .ok (.pop, 1) := by decide +kernel
theorem dX6_thing_74 : decode cX6_thing 74 = .ok (.aload 4, 2) := by decide +kernel
theorem dX6_thing_76 : decode cX6_thing 76 = .ok (.getfield 88, 3) := by decide +kernel
theorem dX6_thing_79 : decode cX6_thing 79 = .ok (.ireturn, 1) := by decide +kernel
theorem dX6_fashion_0 : decode cX6_fashion 0 = .ok (.iload_n 1, 1) := by decide +kernel
theorem dX6_fashion_1 : decode cX6_fashion 1 = .ok (.aload_n 0, 1) := by decide +kernel
theorem dX6_fashion_2 : decode cX6_fashion 2 = .ok (.getfield 19, 3) := by decide +kernel
theorem dX6_fashion_5 : decode cX6_fashion 5 = .ok (.arraylength, 1) := by decide +kernel
theorem dX6_fashion_6 : decode cX6_fashion 6 = .ok (.invokestatic 63, 3) := by decide +kernel
theorem dX6_fashion_9 : decode cX6_fashion 9 = .ok (.iload_n 2, 1) := by decide +kernel
theorem dX6_fashion_10 : decode cX6_fashion 10 = .ok (.iconst 0, 1) := by decide +kernel
theorem dX6_fashion_11 : decode cX6_fashion 11 = .ok (.sipush 200, 3) := by decide +kernel
theorem dX6_fashion_14 : decode cX6_fashion 14 = .ok (.invokestatic 67, 3) := by decide +kernel
theorem dX6_fashion_17 : decode cX6_fashion 17 = .ok (.aload_n 0, 1) := by decide +kernel
theorem dX6_fashion_18 : decode cX6_fashion 18 = .ok (.getfield 19, 3) := by decide +kernel
theorem dX6_fashion_21 : decode cX6_fashion 21 = .ok (.iload_n 1, 1) := by decide +kernel
theorem dX6_fashion_22 : decode cX6_fashion 22 = .ok (.iaload, 1) := by decide +kernel
theorem dX6_fashion_23 : decode cX6_fashion 23 = .ok (.istore_n 3, 1) := by decide +kernel
theorem dX6_fashion_24 : decode cX6_fashion 24 = .ok (.aload_n 0, 1) := by decide +kernel
theorem dX6_fashion_25 : decode cX6_fashion 25 = .ok (.getfield 19, 3) := by decide +kernel
theorem dX6_fashion_28 : decode cX6_fashion 28 = .ok (.iload_n 1, 1) := by decide +kernel
theorem dX6_fashion_29 : decode cX6_fashion 29 = .ok (.iload_n 2, 1) := by decide +kernel
theorem dX6_fashion_30 : decode cX6_fashion 30 = .ok (.iastore, 1) := by decide +kernel
theorem dX6_fashion_31 : decode cX6_fashion 31 = .ok (.iload_n 3, 1) := by decide +kernel
theorem dX6_fashion_32 : decode cX6_fashion 32 = .ok (.ireturn, 1) := by decide +kernel
theorem dX6_bias_0 : decode cX6_bias 0 = .ok (.iload_n 1, 1) := by decide +kernel
theorem dX6_bias_1 : decode cX6_bias 1 = .ok (.aload_n 0, 1) := by decide +kernel
theorem dX6_bias_2 : decode cX6_bias 2 = .ok (.getfield 26, 3) := by decide +kernel
theorem dX6_bias_5 : decode cX6_bias 5 = .ok (.arraylength, 1) := by decide +kernel
theorem dX6_bias_6 : decode cX6_bias 6 = .ok (.invokestatic 63, 3) := by decide +kernel
theorem dX6_bias_9 : decode cX6_bias 9 = .ok (.iload_n 2, 1) := by decide +kernel
theorem dX6_bias_10 : decode cX6_bias 10 = .ok (.bipush (-20), 2) := by decide +kernel
theorem dX6_bias_12 : decode cX6_bias 12 = .ok (.bipush 20, 2) := by decide +kernel
theorem dX6_bias_14 : decode cX6_bias 14 = .ok (.invokestatic 67, 3) := by decide +kernel
theorem dX6_bias_17 : decode cX6_bias 17 = .ok (.aload_n 0, 1) := by decide +kernel
theorem dX6_bias_18 : decode cX6_bias 18 = .ok (.getfield 26, 3) := by decide +kernel
theorem dX6_bias_21 : decode cX6_bias 21 = .ok (.iload_n 1, 1) := by decide +kernel
theorem dX6_bias_22 : decode cX6_bias 22 = .ok (.aaload, 1) := by decide +kernel
theorem dX6_bias_23 : decode cX6_bias 23 = .ok (.getfield 91, 3) := by decide +kernel
theorem dX6_bias_26 : decode cX6_bias 26 = .ok (.istore_n 3, 1) := by decide +kernel
theorem dX6_bias_27 : decode cX6_bias 27 = .ok (.aload_n 0, 1) := by decide +kernel
theorem dX6_bias_28 : decode cX6_bias 28 = .ok (.getfield 26, 3) := by decide +kernel
theorem dX6_bias_31 : decode cX6_bias 31 = .ok (.iload_n 1, 1) := by decide +kernel
theorem dX6_bias_32 : decode cX6_bias 32 = .ok (.aaload, 1) := by decide +kernel
theorem dX6_bias_33 : decode cX6_bias 33 = .ok (.iload_n 2, 1) := by decide +kernel
theorem dX6_bias_34 : decode cX6_bias 34 = .ok (.putfield 91, 3) := by decide +kernel
theorem dX6_bias_37 : decode cX6_bias 37 = .ok (.iload_n 3, 1) := by decide +kernel
theorem dX6_bias_38 : decode cX6_bias 38 = .ok (.ireturn, 1) := by decide +kernel
theorem dX6_classOf_0 : decode cX6_classOf 0 = .ok (.iload_n 1, 1) := by decide +kernel
theorem dX6_classOf_1 : decode cX6_classOf 1 = .ok (.aload_n 0, 1) := by decide +kernel
theorem dX6_classOf_2 : decode cX6_classOf 2 = .ok (.getfield 39, 3) := by decide +kernel
theorem dX6_classOf_5 : decode cX6_classOf 5 = .ok (.arraylength, 1) := by decide +kernel
theorem dX6_classOf_6 : decode cX6_classOf 6 = .ok (.invokestatic 63, 3) := by decide +kernel
theorem dX6_classOf_9 : decode cX6_classOf 9 = .ok (.iload_n 2, 1) := by decide +kernel
theorem dX6_classOf_10 : decode cX6_classOf 10 = .ok (.aload_n 0, 1) := by decide +kernel
theorem dX6_classOf_11 : decode cX6_classOf 11 = .ok (.getfield 35, 3) := by decide +kernel
theorem dX6_classOf_14 : decode cX6_classOf 14 = .ok (.arraylength, 1) := by decide +kernel
theorem dX6_classOf_15 : decode cX6_classOf 15 = .ok (.invokestatic 63, 3) := by decide +kernel
theorem dX6_classOf_18 : decode cX6_classOf 18 = .ok (.aload_n 0, 1) := by decide +kernel
theorem dX6_classOf_19 : decode cX6_classOf 19 = .ok (.getfield 39, 3) := by decide +kernel
theorem dX6_classOf_22 : decode cX6_classOf 22 = .ok (.iload_n 1, 1) := by decide +kernel
theorem dX6_classOf_23 : decode cX6_classOf 23 = .ok (.aaload, 1) := by decide +kernel
theorem dX6_classOf_24 : decode cX6_classOf 24 = .ok (.getfield 94, 3) := by decide +kernel
theorem dX6_classOf_27 : decode cX6_classOf 27 = .ok (.istore_n 3, 1) := by decide +kernel
theorem dX6_classOf_28 : decode cX6_classOf 28 = .ok (.aload_n 0, 1) := by decide +kernel
theorem dX6_classOf_29 : decode cX6_classOf 29 = .ok (.getfield 39, 3) := by decide +kernel
theorem dX6_classOf_32 : decode cX6_classOf 32 = .ok (.iload_n 1, 1) := by decide +kernel
theorem dX6_classOf_33 : decode cX6_classOf 33 = .ok (.aload_n 0, 1) := by decide +kernel
theorem dX6_classOf_34 : decode cX6_classOf 34 = .ok (.getfield 35, 3) := by decide +kernel
theorem dX6_classOf_37 : decode cX6_classOf 37 = .ok (.iload_n 2, 1) := by decide +kernel
theorem dX6_classOf_38 : decode cX6_classOf 38 = .ok (.aaload, 1) := by decide +kernel
theorem dX6_classOf_39 : decode cX6_classOf 39 = .ok (.aastore, 1) := by decide +kernel
theorem dX6_classOf_40 : decode cX6_classOf 40 = .ok (.iload_n 3, 1) := by decide +kernel
theorem dX6_classOf_41 : decode cX6_classOf 41 = .ok (.ireturn, 1) := by decide +kernel
theorem dX6_charter_0 : decode cX6_charter 0 = .ok (.iload_n 1, 1) := by decide +kernel
theorem dX6_charter_1 : decode cX6_charter 1 = .ok (.aload_n 0, 1) := by decide +kernel
theorem dX6_charter_2 : decode cX6_charter 2 = .ok (.getfield 35, 3) := by decide +kernel
theorem dX6_charter_5 : decode cX6_charter 5 = .ok (.arraylength, 1) := by decide +kernel
theorem dX6_charter_6 : decode cX6_charter 6 = .ok (.invokestatic 63, 3) := by decide +kernel
theorem dX6_charter_9 : decode cX6_charter 9 = .ok (.iload_n 2, 1) := by decide +kernel
theorem dX6_charter_10 : decode cX6_charter 10 = .ok (.bipush 10, 2) := by decide +kernel
theorem dX6_charter_12 : decode cX6_charter 12 = .ok (.bipush 90, 2) := by decide +kernel
theorem dX6_charter_14 : decode cX6_charter 14 = .ok (.invokestatic 67, 3) := by decide +kernel
theorem dX6_charter_17 : decode cX6_charter 17 = .ok (.iload_n 3, 1) := by decide +kernel
theorem dX6_charter_18 : decode cX6_charter 18 = .ok (.iconst 0, 1) := by decide +kernel
theorem dX6_charter_19 : decode cX6_charter 19 = .ok (.ldc 97, 2) := by decide +kernel
theorem dX6_charter_21 : decode cX6_charter 21 = .ok (.invokestatic 67, 3) := by decide +kernel
theorem dX6_charter_24 : decode cX6_charter 24 = .ok (.aload_n 0, 1) := by decide +kernel
theorem dX6_charter_25 : decode cX6_charter 25 = .ok (.getfield 35, 3) := by decide +kernel
theorem dX6_charter_28 : decode cX6_charter 28 = .ok (.iload_n 1, 1) := by decide +kernel
theorem dX6_charter_29 : decode cX6_charter 29 = .ok (.aaload, 1) := by decide +kernel
theorem dX6_charter_30 : decode cX6_charter 30 = .ok (.iload_n 2, 1) := by decide +kernel
theorem dX6_charter_31 : decode cX6_charter 31 = .ok (.putfield 98, 3) := by decide +kernel
theorem dX6_charter_34 : decode cX6_charter 34 = .ok (.aload_n 0, 1) := by decide +kernel
theorem dX6_charter_35 : decode cX6_charter 35 = .ok (.getfield 35, 3) := by decide +kernel
theorem dX6_charter_38 : decode cX6_charter 38 = .ok (.iload_n 1, 1) := by decide +kernel
theorem dX6_charter_39 : decode cX6_charter 39 = .ok (.aaload, 1) := by decide +kernel
theorem dX6_charter_40 : decode cX6_charter 40 = .ok (.iload_n 3, 1) := by decide +kernel
theorem dX6_charter_41 : decode cX6_charter 41 = .ok (.putfield 101, 3) := by decide +kernel
theorem dX6_charter_44 : decode cX6_charter 44 = .ok (.return_, 1) := by decide +kernel
theorem dX6_rate_0 : decode cX6_rate 0 = .ok (.iload_n 1, 1) := by decide +kernel
theorem dX6_rate_1 : decode cX6_rate 1 = .ok (.iconst 3, 1) := by decide +kernel
theorem dX6_rate_2 : decode cX6_rate 2 = .ok (.invokestatic 63, 3) := by decide +kernel
theorem dX6_rate_5 : decode cX6_rate 5 = .ok (.iload_n 2, 1) := by decide +kernel
theorem dX6_rate_6 : decode cX6_rate 6 = .ok (.iconst 0, 1) := by decide +kernel
theorem dX6_rate_7 : decode cX6_rate 7 = .ok (.bipush 100, 2) := by decide +kernel
theorem dX6_rate_9 : decode cX6_rate 9 = .ok (.invokestatic 67, 3) := by decide +kernel
theorem dX6_rate_12 : decode cX6_rate 12 = .ok (.aload_n 0, 1) := by decide +kernel
theorem dX6_rate_13 : decode cX6_rate 13 = .ok (.getfield 45, 3) := by decide +kernel
theorem dX6_rate_16 : decode cX6_rate 16 = .ok (.invokevirtual 104, 3) := by decide +kernel
theorem dX6_rate_19 : decode cX6_rate 19 = .ok (.invokestatic 75, 3) := by decide +kernel
theorem dX6_rate_22 : decode cX6_rate 22 = .ok (.aload_n 0, 1) := by decide +kernel
theorem dX6_rate_23 : decode cX6_rate 23 = .ok (.getfield 45, 3) := by decide +kernel
theorem dX6_rate_26 : decode cX6_rate 26 = .ok (.iload_n 1, 1) := by decide +kernel
theorem dX6_rate_27 : decode cX6_rate 27 = .ok (.aload_n 0, 1) := by decide +kernel
theorem dX6_rate_28 : decode cX6_rate 28 = .ok (.getfield 60, 3) := by decide +kernel
theorem dX6_rate_31 : decode cX6_rate 31 = .ok (.invokevirtual 108, 3) := by decide +kernel
theorem dX6_rate_34 : decode cX6_rate 34 = .ok (.istore_n 3, 1) := by decide +kernel
theorem dX6_rate_35 : decode cX6_rate 35 = .ok (.aload_n 0, 1) := by decide +kernel
theorem dX6_rate_36 : decode cX6_rate 36 = .ok (.getfield 45, 3) := by decide +kernel
theorem dX6_rate_39 : decode cX6_rate 39 = .ok (.aload_n 0, 1) := by decide +kernel
theorem dX6_rate_40 : decode cX6_rate 40 = .ok (.getfield 60, 3) := by decide +kernel
theorem dX6_rate_43 : decode cX6_rate 43 = .ok (.iload_n 1, 1) := by decide +kernel
theorem dX6_rate_44 : decode cX6_rate 44 = .ok (.iload_n 2, 1) := by decide +kernel
theorem dX6_rate_45 : decode cX6_rate 45 = .ok (.invokevirtual 112, 3) := by decide +kernel
theorem dX6_rate_48 : decode cX6_rate 48 = .ok (.iload_n 3, 1) := by decide +kernel
theorem dX6_rate_49 : decode cX6_rate 49 = .ok (.ireturn, 1) := by decide +kernel
theorem dX6_term_0 : decode cX6_term 0 = .ok (.iload_n 1, 1) := by decide +kernel
theorem dX6_term_1 : decode cX6_term 1 = .ok (.bipush 14, 2) := by decide +kernel
theorem dX6_term_3 : decode cX6_term 3 = .ok (.sipush 1000, 3) := by decide +kernel
theorem dX6_term_6 : decode cX6_term 6 = .ok (.invokestatic 67, 3) := by decide +kernel
theorem dX6_term_9 : decode cX6_term 9 = .ok (.aload_n 0, 1) := by decide +kernel
theorem dX6_term_10 : decode cX6_term 10 = .ok (.getfield 56, 3) := by decide +kernel
theorem dX6_term_13 : decode cX6_term 13 = .ok (.istore_n 2, 1) := by decide +kernel
theorem dX6_term_14 : decode cX6_term 14 = .ok (.aload_n 0, 1) := by decide +kernel
theorem dX6_term_15 : decode cX6_term 15 = .ok (.iload_n 1, 1) := by decide +kernel
theorem dX6_term_16 : decode cX6_term 16 = .ok (.putfield 56, 3) := by decide +kernel
theorem dX6_term_19 : decode cX6_term 19 = .ok (.iload_n 2, 1) := by decide +kernel
theorem dX6_term_20 : decode cX6_term 20 = .ok (.ireturn, 1) := by decide +kernel
theorem dX6_amnesty_0 : decode cX6_amnesty 0 = .ok (.iload_n 1, 1) := by decide +kernel
theorem dX6_amnesty_1 : decode cX6_amnesty 1 = .ok (.iconst 0, 1) := by decide +kernel
theorem dX6_amnesty_2 : decode cX6_amnesty 2 = .ok (.sipush 5000, 3) := by decide +kernel
theorem dX6_amnesty_5 : decode cX6_amnesty 5 = .ok (.invokestatic 67, 3) := by decide +kernel
theorem dX6_amnesty_8 : decode cX6_amnesty 8 = .ok (.iload_n 2, 1) := by decide +kernel
theorem dX6_amnesty_9 : decode cX6_amnesty 9 = .ok (.iload_n 1, 1) := by decide +kernel
theorem dX6_amnesty_10 : decode cX6_amnesty 10 = .ok (.sipush 5000, 3) := by decide +kernel
theorem dX6_amnesty_13 : decode cX6_amnesty 13 = .ok (.invokestatic 67, 3) := by decide +kernel
theorem dX6_amnesty_16 : decode cX6_amnesty 16 = .ok (.aload_n 0, 1) := by decide +kernel
theorem dX6_amnesty_17 : decode cX6_amnesty 17 = .ok (.getfield 45, 3) := by decide +kernel
theorem dX6_amnesty_20 : decode cX6_amnesty 20 = .ok (.invokevirtual 115, 3) := by decide +kernel
theorem dX6_amnesty_23 : decode cX6_amnesty 23 = .ok (.invokestatic 75, 3) := by decide +kernel
theorem dX6_amnesty_26 : decode cX6_amnesty 26 = .ok (.aload_n 0, 1) := by decide +kernel
theorem dX6_amnesty_27 : decode cX6_amnesty 27 = .ok (.getfield 45, 3) := by decide +kernel
theorem dX6_amnesty_30 : decode cX6_amnesty 30 = .ok (.iload_n 1, 1) := by decide +kernel
theorem dX6_amnesty_31 : decode cX6_amnesty 31 = .ok (.iload_n 2, 1) := by decide +kernel
theorem dX6_amnesty_32 : decode cX6_amnesty 32 = .ok (.invokevirtual 118, 3) := by decide +kernel
theorem dX6_amnesty_35 : decode cX6_amnesty 35 = .ok (.aload_n 0, 1) := by decide +kernel
theorem dX6_amnesty_36 : decode cX6_amnesty 36 = .ok (.getfield 45, 3) := by decide +kernel
theorem dX6_amnesty_39 : decode cX6_amnesty 39 = .ok (.getfield 121, 3) := by decide +kernel
theorem dX6_amnesty_42 : decode cX6_amnesty 42 = .ok (.ireturn, 1) := by decide +kernel
theorem dX6_pledge_0 : decode cX6_pledge 0 = .ok (.iload_n 1, 1) := by decide +kernel
theorem dX6_pledge_1 : decode cX6_pledge 1 = .ok (.bipush 10, 2) := by decide +kernel
theorem dX6_pledge_3 : decode cX6_pledge 3 = .ok (.invokestatic 63, 3) := by decide +kernel
theorem dX6_pledge_6 : decode cX6_pledge 6 = .ok (.aload_n 0, 1) := by decide +kernel
theorem dX6_pledge_7 : decode cX6_pledge 7 = .ok (.iload_n 2, 1) := by decide +kernel
theorem dX6_pledge_8 : decode cX6_pledge 8 = .ok (.invokevirtual 124, 3) := by decide +kernel
theorem dX6_pledge_11 : decode cX6_pledge 11 = .ok (.astore 7, 2) := by decide +kernel
theorem dX6_pledge_13 : decode cX6_pledge 13 = .ok (.iload_n 3, 1) := by decide +kernel
theorem dX6_pledge_14 : decode cX6_pledge 14 = .ok (.aload_n 0, 1) := by decide +kernel
theorem dX6_pledge_15 : decode cX6_pledge 15 = .ok (.getfield 26, 3) := by decide +kernel
theorem dX6_pledge_18 : decode cX6_pledge 18 = .ok (.arraylength, 1) := by decide +kernel
theorem dX6_pledge_19 : decode cX6_pledge 19 = .ok (.invokestatic 63, 3) := by decide +kernel
theorem dX6_pledge_22 : decode cX6_pledge 22 = .ok (.iload 4, 2) := by decide +kernel
theorem dX6_pledge_24 : decode cX6_pledge 24 = .ok (.iconst 3, 1) := by decide +kernel
theorem dX6_pledge_25 : decode cX6_pledge 25 = .ok (.invokestatic 63, 3) := by decide +kernel
theorem dX6_pledge_28 : decode cX6_pledge 28 = .ok (.iload 5, 2) := by decide +kernel
theorem dX6_pledge_30 : decode cX6_pledge 30 = .ok (.iconst 1, 1) := by decide +kernel
theorem dX6_pledge_31 : decode cX6_pledge 31 = .ok (.ldc 97, 2) := by decide +kernel
theorem dX6_pledge_33 : decode cX6_pledge 33 = .ok (.invokestatic 67, 3) := by decide +kernel
theorem dX6_pledge_36 : decode cX6_pledge 36 = .ok (.aload 7, 2) := by decide +kernel
theorem dX6_pledge_38 : decode cX6_pledge 38 = .ok (.getfield 128, 3) := by decide +kernel
theorem dX6_pledge_41 : decode cX6_pledge 41 = .ok (.ifCond .ne 15, 3) := by decide +kernel
theorem dX6_pledge_44 : decode cX6_pledge 44 = .ok (.aload 7, 2) := by decide +kernel
theorem dX6_pledge_46 : decode cX6_pledge 46 = .ok (.getfield 132, 3) := by decide +kernel
theorem dX6_pledge_49 : decode cX6_pledge 49 = .ok (.ifCond .ne 7, 3) := by decide +kernel
theorem dX6_pledge_52 : decode cX6_pledge 52 = .ok (.iconst 1, 1) := by decide +kernel
theorem dX6_pledge_53 : decode cX6_pledge 53 = .ok (.goto 4, 3) := by decide +kernel
theorem dX6_pledge_56 : decode cX6_pledge 56 = .ok (.iconst 0, 1) := by decide +kernel
theorem dX6_pledge_57 : decode cX6_pledge 57 = .ok (.invokestatic 75, 3) := by decide +kernel
theorem dX6_pledge_60 : decode cX6_pledge 60 = .ok (.aload_n 0, 1) := by decide +kernel
theorem dX6_pledge_61 : decode cX6_pledge 61 = .ok (.getfield 26, 3) := by decide +kernel
theorem dX6_pledge_64 : decode cX6_pledge 64 = .ok (.iload_n 3, 1) := by decide +kernel
theorem dX6_pledge_65 : decode cX6_pledge 65 = .ok (.aaload, 1) := by decide +kernel
theorem dX6_pledge_66 : decode cX6_pledge 66 = .ok (.aload_n 0, 1) := by decide +kernel
theorem dX6_pledge_67 : decode cX6_pledge 67 = .ok (.aload 7, 2) := by decide +kernel
theorem dX6_pledge_69 : decode cX6_pledge 69 = .ok (.invokevirtual 135, 3) := by decide +kernel
theorem dX6_pledge_72 : decode cX6_pledge 72 = .ok (.invokevirtual 139, 3) := by decide +kernel
theorem dX6_pledge_75 : decode cX6_pledge 75 = .ok (.istore 8, 2) := by decide +kernel
theorem dX6_pledge_77 : decode cX6_pledge 77 = .ok (.aload_n 0, 1) := by decide +kernel
theorem dX6_pledge_78 : decode cX6_pledge 78 = .ok (.iload_n 1, 1) := by decide +kernel
theorem dX6_pledge_79 : decode cX6_pledge 79 = .ok (.iload 5, 2) := by decide +kernel
theorem dX6_pledge_81 : decode cX6_pledge 81 = .ok (.iload 8, 2) := by decide +kernel
theorem dX6_pledge_83 : decode cX6_pledge 83 = .ok (.invokevirtual 143, 3) := by decide +kernel
theorem dX6_pledge_86 : decode cX6_pledge 86 = .ok (.invokestatic 75, 3) := by decide +kernel
theorem dX6_pledge_89 : decode cX6_pledge 89 = .ok (.aload_n 0, 1) := by decide +kernel
theorem dX6_pledge_90 : decode cX6_pledge 90 = .ok (.aload 7, 2) := by decide +kernel
theorem dX6_pledge_92 : decode cX6_pledge 92 = .ok (.iload 4, 2) := by decide +kernel
theorem dX6_pledge_94 : decode cX6_pledge 94 = .ok (.invokevirtual 147, 3) := by decide +kernel
theorem dX6_pledge_97 : decode cX6_pledge 97 = .ok (.istore 9, 2) := by decide +kernel
theorem dX6_pledge_99 : decode cX6_pledge 99 = .ok (.iload 9, 2) := by decide +kernel
theorem dX6_pledge_101 : decode cX6_pledge 101 = .ok (.iconst (-1), 1) := by decide +kernel
theorem dX6_pledge_102 : decode cX6_pledge 102 = .ok (.if_icmp .eq 19, 3) := by decide +kernel
theorem dX6_pledge_105 : decode cX6_pledge 105 = .ok (.aload_n 0, 1) := by decide +kernel
theorem dX6_pledge_106 : decode cX6_pledge 106 = .ok (.getfield 16, 3) := by decide +kernel
theorem dX6_pledge_109 : decode cX6_pledge 109 = .ok (.invokevirtual 71, 3) := by decide +kernel
theorem dX6_pledge_112 : decode cX6_pledge 112 = .ok (.bipush 40, 2) := by decide +kernel
theorem dX6_pledge_114 : decode cX6_pledge 114 = .ok (.if_icmp .ge 7, 3) := by decide +kernel
theorem dX6_pledge_117 : decode cX6_pledge 117 = .ok (.iconst 1, 1) := by decide +kernel
theorem dX6_pledge_118 : decode cX6_pledge 118 = .ok (.goto 4, 3) := by decide +kernel
theorem dX6_pledge_121 : decode cX6_pledge 121 = .ok (.iconst 0, 1) := by decide +kernel
theorem dX6_pledge_122 : decode cX6_pledge 122 = .ok (.invokestatic 75, 3) := by decide +kernel
theorem dX6_pledge_125 : decode cX6_pledge 125 = .ok (.new 151, 3) := by decide +kernel
theorem dX6_pledge_128 : decode cX6_pledge 128 = .ok (.dup, 1) := by decide +kernel
theorem dX6_pledge_129 : decode cX6_pledge 129 = .ok (.aload_n 0, 1) := by decide +kernel
theorem dX6_pledge_130 : decode cX6_pledge 130 = .ok (.getfield 16, 3) := by decide +kernel
theorem dX6_pledge_133 : decode cX6_pledge 133 = .ok (.invokevirtual 71, 3) := by decide +kernel
theorem dX6_pledge_136 : decode cX6_pledge 136 = .ok (.aload 7, 2) := by decide +kernel
theorem dX6_pledge_138 : decode cX6_pledge 138 = .ok (.iload_n 1, 1) := by decide +kernel
theorem dX6_pledge_139 : decode cX6_pledge 139 = .ok (.iload 6, 2) := by decide +kernel
theorem dX6_pledge_141 : decode cX6_pledge 141 = .ok (.aload_n 0, 1) := by decide +kernel
theorem dX6_pledge_142 : decode cX6_pledge 142 = .ok (.getfield 26, 3) := by decide +kernel
theorem dX6_pledge_145 : decode cX6_pledge 145 = .ok (.iload_n 3, 1) := by decide +kernel
theorem dX6_pledge_146 : decode cX6_pledge 146 = .ok (.aaload, 1) := by decide +kernel
theorem dX6_pledge_147 : decode cX6_pledge 147 = .ok (.iload 8, 2) := by decide +kernel
theorem dX6_pledge_149 : decode cX6_pledge 149 = .ok (.iload 5, 2) := by decide +kernel
theorem dX6_pledge_151 : decode cX6_pledge 151 = .ok (.invokespecial 153, 3) := by decide +kernel
theorem dX6_pledge_154 : decode cX6_pledge 154 = .ok (.astore 10, 2) := by decide +kernel
theorem dX6_pledge_156 : decode cX6_pledge 156 = .ok (.aload 10, 2) := by decide +kernel
theorem dX6_pledge_158 : decode cX6_pledge 158 = .ok (.aload_n 0, 1) := by decide +kernel
theorem dX6_pledge_159 : decode cX6_pledge 159 = .ok (.getfield 60, 3) := by decide +kernel
theorem dX6_pledge_162 : decode cX6_pledge 162 = .ok (.aload_n 0, 1) := by decide +kernel
theorem dX6_pledge_163 : decode cX6_pledge 163 = .ok (.getfield 56, 3) := by decide +kernel
theorem dX6_pledge_166 : decode cX6_pledge 166 = .ok (.invokevirtual 156, 3) := by decide +kernel
theorem dX6_pledge_169 : decode cX6_pledge 169 = .ok (.aload_n 0, 1) := by decide +kernel
theorem dX6_pledge_170 : decode cX6_pledge 170 = .ok (.getfield 16, 3) := by decide +kernel
theorem dX6_pledge_173 : decode cX6_pledge 173 = .ok (.aload 10, 2) := by decide +kernel
theorem dX6_pledge_175 : decode cX6_pledge 175 = .ok (.invokevirtual 84, 3) := by decide +kernel
theorem dX6_pledge_178 : decode cX6_pledge 178 = .ok (.pop, 1) := by decide +kernel
theorem dX6_pledge_179 : decode cX6_pledge 179 = .ok (.aload 7, 2) := by decide +kernel
theorem dX6_pledge_181 : decode cX6_pledge 181 = .ok (.aload 10, 2) := by decide +kernel
theorem dX6_pledge_183 : decode cX6_pledge 183 = .ok (.iload 4, 2) := by decide +kernel
theorem dX6_pledge_185 : decode cX6_pledge 185 = .ok (.iload 9, 2) := by decide +kernel
theorem dX6_pledge_187 : decode cX6_pledge 187 = .ok (.invokestatic 159, 3) := by decide +kernel
theorem dX6_pledge_190 : decode cX6_pledge 190 = .ok (.aload_n 0, 1) := by decide +kernel
theorem dX6_pledge_191 : decode cX6_pledge 191 = .ok (.getfield 60, 3) := by decide +kernel
theorem dX6_pledge_194 : decode cX6_pledge 194 = .ok (.invokevirtual 162, 3) := by decide +kernel
theorem dX6_pledge_197 : decode cX6_pledge 197 = .ok (.aload_n 0, 1) := by decide +kernel
theorem dX6_pledge_198 : decode cX6_pledge 198 = .ok (.getfield 52, 3) := by decide +kernel
theorem dX6_pledge_201 : decode cX6_pledge 201 = .ok (.iload 5, 2) := by decide +kernel
theorem dX6_pledge_203 : decode cX6_pledge 203 = .ok (.ineg, 1) := by decide +kernel
theorem dX6_pledge_204 : decode cX6_pledge 204 = .ok (.invokevirtual 166, 3) := by decide +kernel
theorem dX6_pledge_207 : decode cX6_pledge 207 = .ok (.aload 10, 2) := by decide +kernel
theorem dX6_pledge_209 : decode cX6_pledge 209 = .ok (.getfield 169, 3) := by decide +kernel
theorem dX6_pledge_212 : decode cX6_pledge 212 = .ok (.ireturn, 1) := by decide +kernel
theorem dX6_redeem_0 : decode cX6_redeem 0 = .ok (.aload_n 0, 1) := by decide +kernel
theorem dX6_redeem_1 : decode cX6_redeem 1 = .ok (.iload_n 1, 1) := by decide +kernel
theorem dX6_redeem_2 : decode cX6_redeem 2 = .ok (.invokevirtual 170, 3) := by decide +kernel
theorem dX6_redeem_5 : decode cX6_redeem 5 = .ok (.astore_n 3, 1) := by decide +kernel
theorem dX6_redeem_6 : decode cX6_redeem 6 = .ok (.iload_n 2, 1) := by decide +kernel
theorem dX6_redeem_7 : decode cX6_redeem 7 = .ok (.bipush 10, 2) := by decide +kernel
theorem dX6_redeem_9 : decode cX6_redeem 9 = .ok (.invokestatic 63, 3) := by decide +kernel
theorem dX6_redeem_12 : decode cX6_redeem 12 = .ok (.aload_n 3, 1) := by decide +kernel
theorem dX6_redeem_13 : decode cX6_redeem 13 = .ok (.getfield 174, 3) := by decide +kernel
theorem dX6_redeem_16 : decode cX6_redeem 16 = .ok (.ifCond .ne 14, 3) := by decide +kernel
theorem dX6_redeem_19 : decode cX6_redeem 19 = .ok (.aload_n 3, 1) := by decide +kernel
theorem dX6_redeem_20 : decode cX6_redeem 20 = .ok (.invokevirtual 177, 3) := by decide +kernel
theorem dX6_redeem_23 : decode cX6_redeem 23 = .ok (.ifCond .ne 7, 3) := by decide +kernel
theorem dX6_redeem_26 : decode cX6_redeem 26 = .ok (.iconst 1, 1) := by decide +kernel
theorem dX6_redeem_27 : decode cX6_redeem 27 = .ok (.goto 4, 3) := by decide +kernel
theorem dX6_redeem_30 : decode cX6_redeem 30 = .ok (.iconst 0, 1) := by decide +kernel
theorem dX6_redeem_31 : decode cX6_redeem 31 = .ok (.invokestatic 75, 3) := by decide +kernel
theorem dX6_redeem_34 : decode cX6_redeem 34 = .ok (.aload_n 3, 1) := by decide +kernel
theorem dX6_redeem_35 : decode cX6_redeem 35 = .ok (.getfield 180, 3) := by decide +kernel
theorem dX6_redeem_38 : decode cX6_redeem 38 = .ok (.iload_n 2, 1) := by decide +kernel
theorem dX6_redeem_39 : decode cX6_redeem 39 = .ok (.if_icmp .ne 17, 3) := by decide +kernel
theorem dX6_redeem_42 : decode cX6_redeem 42 = .ok (.aload_n 3, 1) := by decide +kernel
theorem dX6_redeem_43 : decode cX6_redeem 43 = .ok (.getfield 183, 3) := by decide +kernel
theorem dX6_redeem_46 : decode cX6_redeem 46 = .ok (.invokevirtual 187, 3) := by decide +kernel
theorem dX6_redeem_49 : decode cX6_redeem 49 = .ok (.ifCond .eq 7, 3) := by decide +kernel
theorem dX6_redeem_52 : decode cX6_redeem 52 = .ok (.iconst 1, 1) := by decide +kernel
theorem dX6_redeem_53 : decode cX6_redeem 53 = .ok (.goto 4, 3) := by decide +kernel
theorem dX6_redeem_56 : decode cX6_redeem 56 = .ok (.iconst 0, 1) := by decide +kernel
theorem dX6_redeem_57 : decode cX6_redeem 57 = .ok (.invokestatic 75, 3) := by decide +kernel
theorem dX6_redeem_60 : decode cX6_redeem 60 = .ok (.aload_n 3, 1) := by decide +kernel
theorem dX6_redeem_61 : decode cX6_redeem 61 = .ok (.getfield 190, 3) := by decide +kernel
theorem dX6_redeem_64 : decode cX6_redeem 64 = .ok (.aload_n 0, 1) := by decide +kernel
theorem dX6_redeem_65 : decode cX6_redeem 65 = .ok (.aload_n 3, 1) := by decide +kernel
theorem dX6_redeem_66 : decode cX6_redeem 66 = .ok (.invokevirtual 193, 3) := by decide +kernel
theorem dX6_redeem_69 : decode cX6_redeem 69 = .ok (.iadd, 1) := by decide +kernel
theorem dX6_redeem_70 : decode cX6_redeem 70 = .ok (.istore 4, 2) := by decide +kernel
theorem dX6_redeem_72 : decode cX6_redeem 72 = .ok (.aload_n 3, 1) := by decide +kernel
theorem dX6_redeem_73 : decode cX6_redeem 73 = .ok (.iconst 1, 1) := by decide +kernel
theorem dX6_redeem_74 : decode cX6_redeem 74 = .ok (.invokevirtual 197, 3) := by decide +kernel
theorem dX6_redeem_77 : decode cX6_redeem 77 = .ok (.aload_n 0, 1) := by decide +kernel
theorem dX6_redeem_78 : decode cX6_redeem 78 = .ok (.getfield 52, 3) := by decide +kernel
theorem dX6_redeem_81 : decode cX6_redeem 81 = .ok (.iload 4, 2) := by decide +kernel
theorem dX6_redeem_83 : decode cX6_redeem 83 = .ok (.invokevirtual 166, 3) := by decide +kernel
theorem dX6_redeem_86 : decode cX6_redeem 86 = .ok (.iload 4, 2) := by decide +kernel
theorem dX6_redeem_88 : decode cX6_redeem 88 = .ok (.ireturn, 1) := by decide +kernel
theorem dX6_renew_0 : decode cX6_renew 0 = .ok (.aload_n 0, 1) := by decide +kernel
theorem dX6_renew_1 : decode cX6_renew 1 = .ok (.iload_n 1, 1) := by decide +kernel
theorem dX6_renew_2 : decode cX6_renew 2 = .ok (.invokevirtual 170, 3) := by decide +kernel
theorem dX6_renew_5 : decode cX6_renew 5 = .ok (.astore 4, 2) := by decide +kernel
theorem dX6_renew_7 : decode cX6_renew 7 = .ok (.iload_n 2, 1) := by decide +kernel
theorem dX6_renew_8 : decode cX6_renew 8 = .ok (.bipush 10, 2) := by decide +kernel
theorem dX6_renew_10 : decode cX6_renew 10 = .ok (.invokestatic 63, 3) := by decide +kernel
theorem dX6_renew_13 : decode cX6_renew 13 = .ok (.iload_n 3, 1) := by decide +kernel
theorem dX6_renew_14 : decode cX6_renew 14 = .ok (.iconst 0, 1) := by decide +kernel
theorem dX6_renew_15 : decode cX6_renew 15 = .ok (.aload 4, 2) := by decide +kernel
theorem dX6_renew_17 : decode cX6_renew 17 = .ok (.getfield 190, 3) := by decide +kernel
theorem dX6_renew_20 : decode cX6_renew 20 = .ok (.iconst 1, 1) := by decide +kernel
theorem dX6_renew_21 : decode cX6_renew 21 = .ok (.isub, 1) := by decide +kernel
theorem dX6_renew_22 : decode cX6_renew 22 = .ok (.invokestatic 67, 3) := by decide +kernel
theorem dX6_renew_25 : decode cX6_renew 25 = .ok (.aload 4, 2) := by decide +kernel
theorem dX6_renew_27 : decode cX6_renew 27 = .ok (.getfield 174, 3) := by decide +kernel
theorem dX6_renew_30 : decode cX6_renew 30 = .ok (.ifCond .ne 24, 3) := by decide +kernel
theorem dX6_renew_33 : decode cX6_renew 33 = .ok (.aload 4, 2) := by decide +kernel
theorem dX6_renew_35 : decode cX6_renew 35 = .ok (.invokevirtual 177, 3) := by decide +kernel
theorem dX6_renew_38 : decode cX6_renew 38 = .ok (.ifCond .ne 16, 3) := by decide +kernel
theorem dX6_renew_41 : decode cX6_renew 41 = .ok (.aload 4, 2) := by decide +kernel
theorem dX6_renew_43 : decode cX6_renew 43 = .ok (.getfield 180, 3) := by decide +kernel
theorem dX6_renew_46 : decode cX6_renew 46 = .ok (.iload_n 2, 1) := by decide +kernel
theorem dX6_renew_47 : decode cX6_renew 47 = .ok (.if_icmp .ne 7, 3) := by decide +kernel
theorem dX6_renew_50 : decode cX6_renew 50 = .ok (.iconst 1, 1) := by decide +kernel
theorem dX6_renew_51 : decode cX6_renew 51 = .ok (.goto 4, 3) := by decide +kernel
theorem dX6_renew_54 : decode cX6_renew 54 = .ok (.iconst 0, 1) := by decide +kernel
theorem dX6_renew_55 : decode cX6_renew 55 = .ok (.invokestatic 75, 3) := by decide +kernel
theorem dX6_renew_58 : decode cX6_renew 58 = .ok (.aload_n 0, 1) := by decide +kernel
theorem dX6_renew_59 : decode cX6_renew 59 = .ok (.aload 4, 2) := by decide +kernel
theorem dX6_renew_61 : decode cX6_renew 61 = .ok (.invokevirtual 193, 3) := by decide +kernel
theorem dX6_renew_64 : decode cX6_renew 64 = .ok (.iload_n 3, 1) := by decide +kernel
theorem dX6_renew_65 : decode cX6_renew 65 = .ok (.iadd, 1) := by decide +kernel
theorem dX6_renew_66 : decode cX6_renew 66 = .ok (.istore 5, 2) := by decide +kernel
theorem dX6_renew_68 : decode cX6_renew 68 = .ok (.aload 4, 2) := by decide +kernel
theorem dX6_renew_70 : decode cX6_renew 70 = .ok (.dup, 1) := by decide +kernel
theorem dX6_renew_71 : decode cX6_renew 71 = .ok (.getfield 190, 3) := by decide +kernel
theorem dX6_renew_74 : decode cX6_renew 74 = .ok (.iload_n 3, 1) := by decide +kernel
theorem dX6_renew_75 : decode cX6_renew 75 = .ok (.isub, 1) := by decide +kernel
theorem dX6_renew_76 : decode cX6_renew 76 = .ok (.putfield 190, 3) := by decide +kernel
theorem dX6_renew_79 : decode cX6_renew 79 = .ok (.aload 4, 2) := by decide +kernel
theorem dX6_renew_81 : decode cX6_renew 81 = .ok (.aload_n 0, 1) := by decide +kernel
theorem dX6_renew_82 : decode cX6_renew 82 = .ok (.getfield 60, 3) := by decide +kernel
theorem dX6_renew_85 : decode cX6_renew 85 = .ok (.aload_n 0, 1) := by decide +kernel
theorem dX6_renew_86 : decode cX6_renew 86 = .ok (.getfield 56, 3) := by decide +kernel
theorem dX6_renew_89 : decode cX6_renew 89 = .ok (.invokevirtual 156, 3) := by decide +kernel
theorem dX6_renew_92 : decode cX6_renew 92 = .ok (.aload_n 0, 1) := by decide +kernel
theorem dX6_renew_93 : decode cX6_renew 93 = .ok (.getfield 52, 3) := by decide +kernel
theorem dX6_renew_96 : decode cX6_renew 96 = .ok (.iload 5, 2) := by decide +kernel
theorem dX6_renew_98 : decode cX6_renew 98 = .ok (.invokevirtual 166, 3) := by decide +kernel
theorem dX6_renew_101 : decode cX6_renew 101 = .ok (.iload 5, 2) := by decide +kernel
theorem dX6_renew_103 : decode cX6_renew 103 = .ok (.ireturn, 1) := by decide +kernel
theorem dX6_give_0 : decode cX6_give 0 = .ok (.aload_n 0, 1) := by decide +kernel
theorem dX6_give_1 : decode cX6_give 1 = .ok (.iload_n 1, 1) := by decide +kernel
theorem dX6_give_2 : decode cX6_give 2 = .ok (.invokevirtual 170, 3) := by decide +kernel
theorem dX6_give_5 : decode cX6_give 5 = .ok (.astore_n 3, 1) := by decide +kernel
theorem dX6_give_6 : decode cX6_give 6 = .ok (.iload_n 2, 1) := by decide +kernel
theorem dX6_give_7 : decode cX6_give 7 = .ok (.bipush 10, 2) := by decide +kernel
theorem dX6_give_9 : decode cX6_give 9 = .ok (.invokestatic 63, 3) := by decide +kernel
theorem dX6_give_12 : decode cX6_give 12 = .ok (.aload_n 3, 1) := by decide +kernel
theorem dX6_give_13 : decode cX6_give 13 = .ok (.getfield 200, 3) := by decide +kernel
theorem dX6_give_16 : decode cX6_give 16 = .ok (.ifCond .ne 14, 3) := by decide +kernel
theorem dX6_give_19 : decode cX6_give 19 = .ok (.aload_n 3, 1) := by decide +kernel
theorem dX6_give_20 : decode cX6_give 20 = .ok (.invokevirtual 203, 3) := by decide +kernel
theorem dX6_give_23 : decode cX6_give 23 = .ok (.ifCond .eq 7, 3) := by decide +kernel
theorem dX6_give_26 : decode cX6_give 26 = .ok (.iconst 1, 1) := by decide +kernel
theorem dX6_give_27 : decode cX6_give 27 = .ok (.goto 4, 3) := by decide +kernel
theorem dX6_give_30 : decode cX6_give 30 = .ok (.iconst 0, 1) := by decide +kernel
theorem dX6_give_31 : decode cX6_give 31 = .ok (.invokestatic 75, 3) := by decide +kernel
theorem dX6_give_34 : decode cX6_give 34 = .ok (.aload_n 3, 1) := by decide +kernel
theorem dX6_give_35 : decode cX6_give 35 = .ok (.getfield 180, 3) := by decide +kernel
theorem dX6_give_38 : decode cX6_give 38 = .ok (.istore 4, 2) := by decide +kernel
theorem dX6_give_40 : decode cX6_give 40 = .ok (.aload_n 3, 1) := by decide +kernel
theorem dX6_give_41 : decode cX6_give 41 = .ok (.iload_n 2, 1) := by decide +kernel
theorem dX6_give_42 : decode cX6_give 42 = .ok (.putfield 180, 3) := by decide +kernel
theorem dX6_give_45 : decode cX6_give 45 = .ok (.iload 4, 2) := by decide +kernel
theorem dX6_give_47 : decode cX6_give 47 = .ok (.ireturn, 1) := by decide +kernel
theorem dX6_notice_0 : decode cX6_notice 0 = .ok (.aload_n 0, 1) := by decide +kernel
theorem dX6_notice_1 : decode cX6_notice 1 = .ok (.iload_n 1, 1) := by decide +kernel
theorem dX6_notice_2 : decode cX6_notice 2 = .ok (.invokevirtual 170, 3) := by decide +kernel
theorem dX6_notice_5 : decode cX6_notice 5 = .ok (.astore_n 3, 1) := by decide +kernel
theorem dX6_notice_6 : decode cX6_notice 6 = .ok (.iload_n 2, 1) := by decide +kernel
theorem dX6_notice_7 : decode cX6_notice 7 = .ok (.bipush 10, 2) := by decide +kernel
theorem dX6_notice_9 : decode cX6_notice 9 = .ok (.invokestatic 63, 3) := by decide +kernel
theorem dX6_notice_12 : decode cX6_notice 12 = .ok (.aload_n 3, 1) := by decide +kernel
theorem dX6_notice_13 : decode cX6_notice 13 = .ok (.invokevirtual 203, 3) := by decide +kernel
theorem dX6_notice_16 : decode cX6_notice 16 = .ok (.ifCond .eq 14, 3) := by decide +kernel
theorem dX6_notice_19 : decode cX6_notice 19 = .ok (.aload_n 3, 1) := by decide +kernel
theorem dX6_notice_20 : decode cX6_notice 20 = .ok (.invokevirtual 206, 3) := by decide +kernel
theorem dX6_notice_23 : decode cX6_notice 23 = .ok (.ifCond .ne 7, 3) := by decide +kernel
theorem dX6_notice_26 : decode cX6_notice 26 = .ok (.iconst 1, 1) := by decide +kernel
theorem dX6_notice_27 : decode cX6_notice 27 = .ok (.goto 4, 3) := by decide +kernel
theorem dX6_notice_30 : decode cX6_notice 30 = .ok (.iconst 0, 1) := by decide +kernel
theorem dX6_notice_31 : decode cX6_notice 31 = .ok (.invokestatic 75, 3) := by decide +kernel
theorem dX6_notice_34 : decode cX6_notice 34 = .ok (.aload_n 3, 1) := by decide +kernel
theorem dX6_notice_35 : decode cX6_notice 35 = .ok (.iload_n 2, 1) := by decide +kernel
theorem dX6_notice_36 : decode cX6_notice 36 = .ok (.putfield 209, 3) := by decide +kernel
theorem dX6_notice_39 : decode cX6_notice 39 = .ok (.aload_n 3, 1) := by decide +kernel
theorem dX6_notice_40 : decode cX6_notice 40 = .ok (.aload_n 0, 1) := by decide +kernel
theorem dX6_notice_41 : decode cX6_notice 41 = .ok (.getfield 60, 3) := by decide +kernel
theorem dX6_notice_44 : decode cX6_notice 44 = .ok (.putfield 212, 3) := by decide +kernel
theorem dX6_notice_47 : decode cX6_notice 47 = .ok (.return_, 1) := by decide +kernel
theorem dX6_show_0 : decode cX6_show 0 = .ok (.aload_n 0, 1) := by decide +kernel
theorem dX6_show_1 : decode cX6_show 1 = .ok (.iload_n 1, 1) := by decide +kernel
theorem dX6_show_2 : decode cX6_show 2 = .ok (.invokevirtual 170, 3) := by decide +kernel
theorem dX6_show_5 : decode cX6_show 5 = .ok (.astore_n 2, 1) := by decide +kernel
theorem dX6_show_6 : decode cX6_show 6 = .ok (.aload_n 2, 1) := by decide +kernel
theorem dX6_show_7 : decode cX6_show 7 = .ok (.invokevirtual 206, 3) := by decide +kernel
theorem dX6_show_10 : decode cX6_show 10 = .ok (.invokestatic 75, 3) := by decide +kernel
theorem dX6_show_13 : decode cX6_show 13 = .ok (.aload_n 2, 1) := by decide +kernel
theorem dX6_show_14 : decode cX6_show 14 = .ok (.getfield 209, 3) := by decide +kernel
theorem dX6_show_17 : decode cX6_show 17 = .ok (.istore_n 3, 1) := by decide +kernel
theorem dX6_show_18 : decode cX6_show 18 = .ok (.aload_n 2, 1) := by decide +kernel
theorem dX6_show_19 : decode cX6_show 19 = .ok (.iconst (-1), 1) := by decide +kernel
theorem dX6_show_20 : decode cX6_show 20 = .ok (.putfield 209, 3) := by decide +kernel
theorem dX6_show_23 : decode cX6_show 23 = .ok (.iload_n 3, 1) := by decide +kernel
theorem dX6_show_24 : decode cX6_show 24 = .ok (.ireturn, 1) := by decide +kernel
theorem dX6_police_0 : decode cX6_police 0 = .ok (.aload_n 0, 1) := by decide +kernel
theorem dX6_police_1 : decode cX6_police 1 = .ok (.iload_n 1, 1) := by decide +kernel
theorem dX6_police_2 : decode cX6_police 2 = .ok (.invokevirtual 124, 3) := by decide +kernel
theorem dX6_police_5 : decode cX6_police 5 = .ok (.astore_n 2, 1) := by decide +kernel
theorem dX6_police_6 : decode cX6_police 6 = .ok (.aload_n 2, 1) := by decide +kernel
theorem dX6_police_7 : decode cX6_police 7 = .ok (.getfield 132, 3) := by decide +kernel
theorem dX6_police_10 : decode cX6_police 10 = .ok (.ifCond .ne 7, 3) := by decide +kernel
theorem dX6_police_13 : decode cX6_police 13 = .ok (.iconst 1, 1) := by decide +kernel
theorem dX6_police_14 : decode cX6_police 14 = .ok (.goto 4, 3) := by decide +kernel
theorem dX6_police_17 : decode cX6_police 17 = .ok (.iconst 0, 1) := by decide +kernel
theorem dX6_police_18 : decode cX6_police 18 = .ok (.invokestatic 75, 3) := by decide +kernel
theorem dX6_police_21 : decode cX6_police 21 = .ok (.aload_n 2, 1) := by decide +kernel
theorem dX6_police_22 : decode cX6_police 22 = .ok (.iconst 1, 1) := by decide +kernel
theorem dX6_police_23 : decode cX6_police 23 = .ok (.putfield 132, 3) := by decide +kernel
theorem dX6_police_26 : decode cX6_police 26 = .ok (.aload_n 2, 1) := by decide +kernel
theorem dX6_police_27 : decode cX6_police 27 = .ok (.invokevirtual 215, 3) := by decide +kernel
theorem dX6_police_30 : decode cX6_police 30 = .ok (.ireturn, 1) := by decide +kernel
theorem dX6_court_0 : decode cX6_court 0 = .ok (.aload_n 0, 1) := by decide +kernel
theorem dX6_court_1 : decode cX6_court 1 = .ok (.iload_n 1, 1) := by decide +kernel
theorem dX6_court_2 : decode cX6_court 2 = .ok (.invokevirtual 124, 3) := by decide +kernel
theorem dX6_court_5 : decode cX6_court 5 = .ok (.astore_n 3, 1) := by decide +kernel
theorem dX6_court_6 : decode cX6_court 6 = .ok (.aload_n 3, 1) := by decide +kernel
theorem dX6_court_7 : decode cX6_court 7 = .ok (.getfield 132, 3) := by decide +kernel
theorem dX6_court_10 : decode cX6_court 10 = .ok (.invokestatic 75, 3) := by decide +kernel
theorem dX6_court_13 : decode cX6_court 13 = .ok (.aload_n 3, 1) := by decide +kernel
theorem dX6_court_14 : decode cX6_court 14 = .ok (.iconst 0, 1) := by decide +kernel
theorem dX6_court_15 : decode cX6_court 15 = .ok (.putfield 132, 3) := by decide +kernel
theorem dX6_court_18 : decode cX6_court 18 = .ok (.aload_n 3, 1) := by decide +kernel
theorem dX6_court_19 : decode cX6_court 19 = .ok (.getfield 218, 3) := by decide +kernel
theorem dX6_court_22 : decode cX6_court 22 = .ok (.astore 4, 2) := by decide +kernel
theorem dX6_court_24 : decode cX6_court 24 = .ok (.iload_n 2, 1) := by decide +kernel
theorem dX6_court_25 : decode cX6_court 25 = .ok (.ifCond .eq 8, 3) := by decide +kernel
theorem dX6_court_28 : decode cX6_court 28 = .ok (.aload 4, 2) := by decide +kernel
theorem dX6_court_30 : decode cX6_court 30 = .ok (.ifnonnull 5, 3) := by decide +kernel
theorem dX6_court_33 : decode cX6_court 33 = .ok (.iconst (-1), 1) := by decide +kernel
theorem dX6_court_34 : decode cX6_court 34 = .ok (.ireturn, 1) := by decide +kernel
theorem dX6_court_35 : decode cX6_court 35 = .ok (.aload 4, 2) := by decide +kernel
theorem dX6_court_37 : decode cX6_court 37 = .ok (.iconst 3, 1) := by decide +kernel
theorem dX6_court_38 : decode cX6_court 38 = .ok (.invokevirtual 197, 3) := by decide +kernel
theorem dX6_court_41 : decode cX6_court 41 = .ok (.aload 4, 2) := by decide +kernel
theorem dX6_court_43 : decode cX6_court 43 = .ok (.getfield 222, 3) := by decide +kernel
theorem dX6_court_46 : decode cX6_court 46 = .ok (.dup, 1) := by decide +kernel
theorem dX6_court_47 : decode cX6_court 47 = .ok (.getfield 226, 3) := by decide +kernel
theorem dX6_court_50 : decode cX6_court 50 = .ok (.aload 4, 2) := by decide +kernel
theorem dX6_court_52 : decode cX6_court 52 = .ok (.getfield 190, 3) := by decide +kernel
theorem dX6_court_55 : decode cX6_court 55 = .ok (.iadd, 1) := by decide +kernel
theorem dX6_court_56 : decode cX6_court 56 = .ok (.putfield 226, 3) := by decide +kernel
theorem dX6_court_59 : decode cX6_court 59 = .ok (.aload 4, 2) := by decide +kernel
theorem dX6_court_61 : decode cX6_court 61 = .ok (.getfield 169, 3) := by decide +kernel
theorem dX6_court_64 : decode cX6_court 64 = .ok (.ireturn, 1) := by decide +kernel
theorem dX6_stray_0 : decode cX6_stray 0 = .ok (.aload_n 0, 1) := by decide +kernel
theorem dX6_stray_1 : decode cX6_stray 1 = .ok (.iload_n 1, 1) := by decide +kernel
theorem dX6_stray_2 : decode cX6_stray 2 = .ok (.invokevirtual 124, 3) := by decide +kernel
theorem dX6_stray_5 : decode cX6_stray 5 = .ok (.astore 4, 2) := by decide +kernel
theorem dX6_stray_7 : decode cX6_stray 7 = .ok (.iload_n 2, 1) := by decide +kernel
theorem dX6_stray_8 : decode cX6_stray 8 = .ok (.iconst 3, 1) := by decide +kernel
theorem dX6_stray_9 : decode cX6_stray 9 = .ok (.invokestatic 63, 3) := by decide +kernel
theorem dX6_stray_12 : decode cX6_stray 12 = .ok (.iload_n 3, 1) := by decide +kernel
theorem dX6_stray_13 : decode cX6_stray 13 = .ok (.iconst 4, 1) := by decide +kernel
theorem dX6_stray_14 : decode cX6_stray 14 = .ok (.invokestatic 63, 3) := by decide +kernel
theorem dX6_stray_17 : decode cX6_stray 17 = .ok (.aload 4, 2) := by decide +kernel
theorem dX6_stray_19 : decode cX6_stray 19 = .ok (.getfield 128, 3) := by decide +kernel
theorem dX6_stray_22 : decode cX6_stray 22 = .ok (.invokestatic 75, 3) := by decide +kernel
theorem dX6_stray_25 : decode cX6_stray 25 = .ok (.aload 4, 2) := by decide +kernel
theorem dX6_stray_27 : decode cX6_stray 27 = .ok (.iload_n 2, 1) := by decide +kernel
theorem dX6_stray_28 : decode cX6_stray 28 = .ok (.iload_n 3, 1) := by decide +kernel
theorem dX6_stray_29 : decode cX6_stray 29 = .ok (.invokestatic 159, 3) := by decide +kernel
theorem dX6_stray_32 : decode cX6_stray 32 = .ok (.aload_n 0, 1) := by decide +kernel
theorem dX6_stray_33 : decode cX6_stray 33 = .ok (.getfield 60, 3) := by decide +kernel
theorem dX6_stray_36 : decode cX6_stray 36 = .ok (.invokevirtual 229, 3) := by decide +kernel
theorem dX6_stray_39 : decode cX6_stray 39 = .ok (.return_, 1) := by decide +kernel
theorem dX6_count_0 : decode cX6_count 0 = .ok (.iload_n 1, 1) := by decide +kernel
theorem dX6_count_1 : decode cX6_count 1 = .ok (.iconst 3, 1) := by decide +kernel
theorem dX6_count_2 : decode cX6_count 2 = .ok (.invokestatic 63, 3) := by decide +kernel
theorem dX6_count_5 : decode cX6_count 5 = .ok (.iconst 0, 1) := by decide +kernel
theorem dX6_count_6 : decode cX6_count 6 = .ok (.istore_n 2, 1) := by decide +kernel
theorem dX6_count_7 : decode cX6_count 7 = .ok (.iconst 0, 1) := by decide +kernel
theorem dX6_count_8 : decode cX6_count 8 = .ok (.istore_n 3, 1) := by decide +kernel
theorem dX6_count_9 : decode cX6_count 9 = .ok (.iconst 0, 1) := by decide +kernel
theorem dX6_count_10 : decode cX6_count 10 = .ok (.istore 4, 2) := by decide +kernel
theorem dX6_count_12 : decode cX6_count 12 = .ok (.iload 4, 2) := by decide +kernel
theorem dX6_count_14 : decode cX6_count 14 = .ok (.aload_n 0, 1) := by decide +kernel
theorem dX6_count_15 : decode cX6_count 15 = .ok (.getfield 10, 3) := by decide +kernel
theorem dX6_count_18 : decode cX6_count 18 = .ok (.invokevirtual 71, 3) := by decide +kernel
theorem dX6_count_21 : decode cX6_count 21 = .ok (.if_icmp .ge 85, 3) := by decide +kernel
theorem dX6_count_24 : decode cX6_count 24 = .ok (.aload_n 0, 1) := by decide +kernel
theorem dX6_count_25 : decode cX6_count 25 = .ok (.getfield 10, 3) := by decide +kernel
theorem dX6_count_28 : decode cX6_count 28 = .ok (.iload 4, 2) := by decide +kernel
theorem dX6_count_30 : decode cX6_count 30 = .ok (.invokevirtual 232, 3) := by decide +kernel
theorem dX6_count_33 : decode cX6_count 33 = .ok (.checkcast 79, 3) := by decide +kernel
theorem dX6_count_36 : decode cX6_count 36 = .ok (.astore 5, 2) := by decide +kernel
theorem dX6_count_38 : decode cX6_count 38 = .ok (.aload 5, 2) := by decide +kernel
theorem dX6_count_40 : decode cX6_count 40 = .ok (.getfield 128, 3) := by decide +kernel
theorem dX6_count_43 : decode cX6_count 43 = .ok (.ifCond .eq 57, 3) := by decide +kernel
theorem dX6_count_46 : decode cX6_count 46 = .ok (.aload 5, 2) := by decide +kernel
theorem dX6_count_48 : decode cX6_count 48 = .ok (.invokevirtual 187, 3) := by decide +kernel
theorem dX6_count_51 : decode cX6_count 51 = .ok (.ifCond .eq 6, 3) := by decide +kernel
theorem dX6_count_54 : decode cX6_count 54 = .ok (.goto 46, 3) := by decide +kernel
theorem dX6_count_57 : decode cX6_count 57 = .ok (.aload 5, 2) := by decide +kernel
theorem dX6_count_59 : decode cX6_count 59 = .ok (.getfield 236, 3) := by decide +kernel
theorem dX6_count_62 : decode cX6_count 62 = .ok (.invokestatic 239, 3) := by decide +kernel
theorem dX6_count_65 : decode cX6_count 65 = .ok (.iload_n 1, 1) := by decide +kernel
theorem dX6_count_66 : decode cX6_count 66 = .ok (.if_icmp .ne 19, 3) := by decide +kernel
theorem dX6_count_69 : decode cX6_count 69 = .ok (.aload 5, 2) := by decide +kernel
theorem dX6_count_71 : decode cX6_count 71 = .ok (.aload 5, 2) := by decide +kernel
theorem dX6_count_73 : decode cX6_count 73 = .ok (.getfield 236, 3) := by decide +kernel
theorem dX6_count_76 : decode cX6_count 76 = .ok (.putfield 242, 3) := by decide +kernel
theorem dX6_count_79 : decode cX6_count 79 = .ok (.iinc 3 1, 3) := by decide +kernel
theorem dX6_count_82 : decode cX6_count 82 = .ok (.goto 18, 3) := by decide +kernel
theorem dX6_count_85 : decode cX6_count 85 = .ok (.aload 5, 2) := by decide +kernel
theorem dX6_count_87 : decode cX6_count 87 = .ok (.getfield 242, 3) := by decide +kernel
theorem dX6_count_90 : decode cX6_count 90 = .ok (.invokestatic 239, 3) := by decide +kernel
theorem dX6_count_93 : decode cX6_count 93 = .ok (.iload_n 1, 1) := by decide +kernel
theorem dX6_count_94 : decode cX6_count 94 = .ok (.if_icmp .ne 6, 3) := by decide +kernel
theorem dX6_count_97 : decode cX6_count 97 = .ok (.iinc 2 1, 3) := by decide +kernel
theorem dX6_count_100 : decode cX6_count 100 = .ok (.iinc 4 1, 3) := by decide +kernel
theorem dX6_count_103 : decode cX6_count 103 = .ok (.goto (-91), 3) := by decide +kernel
theorem dX6_count_106 : decode cX6_count 106 = .ok (.bipush 100, 2) := by decide +kernel
theorem dX6_count_108 : decode cX6_count 108 = .ok (.iload_n 2, 1) := by decide +kernel
theorem dX6_count_109 : decode cX6_count 109 = .ok (.imul, 1) := by decide +kernel
theorem dX6_count_110 : decode cX6_count 110 = .ok (.iload_n 3, 1) := by decide +kernel
theorem dX6_count_111 : decode cX6_count 111 = .ok (.iadd, 1) := by decide +kernel
theorem dX6_count_112 : decode cX6_count 112 = .ok (.ireturn, 1) := by decide +kernel
theorem dX6_transfer_0 : decode cX6_transfer 0 = .ok (.aload_n 0, 1) := by decide +kernel
theorem dX6_transfer_1 : decode cX6_transfer 1 = .ok (.iload_n 1, 1) := by decide +kernel
theorem dX6_transfer_2 : decode cX6_transfer 2 = .ok (.invokevirtual 124, 3) := by decide +kernel
theorem dX6_transfer_5 : decode cX6_transfer 5 = .ok (.astore_n 3, 1) := by decide +kernel
theorem dX6_transfer_6 : decode cX6_transfer 6 = .ok (.iload_n 2, 1) := by decide +kernel
theorem dX6_transfer_7 : decode cX6_transfer 7 = .ok (.iconst 3, 1) := by decide +kernel
theorem dX6_transfer_8 : decode cX6_transfer 8 = .ok (.invokestatic 63, 3) := by decide +kernel
theorem dX6_transfer_11 : decode cX6_transfer 11 = .ok (.aload_n 3, 1) := by decide +kernel
theorem dX6_transfer_12 : decode cX6_transfer 12 = .ok (.invokevirtual 187, 3) := by decide +kernel
theorem dX6_transfer_15 : decode cX6_transfer 15 = .ok (.invokestatic 75, 3) := by decide +kernel
theorem dX6_transfer_18 : decode cX6_transfer 18 = .ok (.aload_n 0, 1) := by decide +kernel
theorem dX6_transfer_19 : decode cX6_transfer 19 = .ok (.aload_n 3, 1) := by decide +kernel
theorem dX6_transfer_20 : decode cX6_transfer 20 = .ok (.iload_n 2, 1) := by decide +kernel
theorem dX6_transfer_21 : decode cX6_transfer 21 = .ok (.invokevirtual 147, 3) := by decide +kernel
theorem dX6_transfer_24 : decode cX6_transfer 24 = .ok (.istore 4, 2) := by decide +kernel
theorem dX6_transfer_26 : decode cX6_transfer 26 = .ok (.iload 4, 2) := by decide +kernel
theorem dX6_transfer_28 : decode cX6_transfer 28 = .ok (.iconst (-1), 1) := by decide +kernel
theorem dX6_transfer_29 : decode cX6_transfer 29 = .ok (.if_icmp .eq 7, 3) := by decide +kernel
theorem dX6_transfer_32 : decode cX6_transfer 32 = .ok (.iconst 1, 1) := by decide +kernel
theorem dX6_transfer_33 : decode cX6_transfer 33 = .ok (.goto 4, 3) := by decide +kernel
theorem dX6_transfer_36 : decode cX6_transfer 36 = .ok (.iconst 0, 1) := by decide +kernel
theorem dX6_transfer_37 : decode cX6_transfer 37 = .ok (.invokestatic 75, 3) := by decide +kernel
theorem dX6_transfer_40 : decode cX6_transfer 40 = .ok (.aload_n 3, 1) := by decide +kernel
theorem dX6_transfer_41 : decode cX6_transfer 41 = .ok (.iload_n 2, 1) := by decide +kernel
theorem dX6_transfer_42 : decode cX6_transfer 42 = .ok (.iload 4, 2) := by decide +kernel
theorem dX6_transfer_44 : decode cX6_transfer 44 = .ok (.invokestatic 159, 3) := by decide +kernel
theorem dX6_transfer_47 : decode cX6_transfer 47 = .ok (.aload_n 0, 1) := by decide +kernel
theorem dX6_transfer_48 : decode cX6_transfer 48 = .ok (.getfield 60, 3) := by decide +kernel
theorem dX6_transfer_51 : decode cX6_transfer 51 = .ok (.invokevirtual 229, 3) := by decide +kernel
theorem dX6_transfer_54 : decode cX6_transfer 54 = .ok (.aload_n 3, 1) := by decide +kernel
theorem dX6_transfer_55 : decode cX6_transfer 55 = .ok (.aload_n 3, 1) := by decide +kernel
theorem dX6_transfer_56 : decode cX6_transfer 56 = .ok (.getfield 236, 3) := by decide +kernel
theorem dX6_transfer_59 : decode cX6_transfer 59 = .ok (.putfield 242, 3) := by decide +kernel
theorem dX6_transfer_62 : decode cX6_transfer 62 = .ok (.iload 4, 2) := by decide +kernel
theorem dX6_transfer_64 : decode cX6_transfer 64 = .ok (.ireturn, 1) := by decide +kernel
theorem dX6_wind_0 : decode cX6_wind 0 = .ok (.iload_n 1, 1) := by decide +kernel
theorem dX6_wind_1 : decode cX6_wind 1 = .ok (.iconst 3, 1) := by decide +kernel
theorem dX6_wind_2 : decode cX6_wind 2 = .ok (.invokestatic 63, 3) := by decide +kernel
theorem dX6_wind_5 : decode cX6_wind 5 = .ok (.iconst 0, 1) := by decide +kernel
theorem dX6_wind_6 : decode cX6_wind 6 = .ok (.istore_n 2, 1) := by decide +kernel
theorem dX6_wind_7 : decode cX6_wind 7 = .ok (.iconst 0, 1) := by decide +kernel
theorem dX6_wind_8 : decode cX6_wind 8 = .ok (.istore_n 3, 1) := by decide +kernel
theorem dX6_wind_9 : decode cX6_wind 9 = .ok (.iload_n 3, 1) := by decide +kernel
theorem dX6_wind_10 : decode cX6_wind 10 = .ok (.aload_n 0, 1) := by decide +kernel
theorem dX6_wind_11 : decode cX6_wind 11 = .ok (.getfield 10, 3) := by decide +kernel
theorem dX6_wind_14 : decode cX6_wind 14 = .ok (.invokevirtual 71, 3) := by decide +kernel
theorem dX6_wind_17 : decode cX6_wind 17 = .ok (.if_icmp .ge 63, 3) := by decide +kernel
theorem dX6_wind_20 : decode cX6_wind 20 = .ok (.aload_n 0, 1) := by decide +kernel
theorem dX6_wind_21 : decode cX6_wind 21 = .ok (.getfield 10, 3) := by decide +kernel
theorem dX6_wind_24 : decode cX6_wind 24 = .ok (.iload_n 3, 1) := by decide +kernel
theorem dX6_wind_25 : decode cX6_wind 25 = .ok (.invokevirtual 232, 3) := by decide +kernel
theorem dX6_wind_28 : decode cX6_wind 28 = .ok (.checkcast 79, 3) := by decide +kernel
theorem dX6_wind_31 : decode cX6_wind 31 = .ok (.astore 4, 2) := by decide +kernel
theorem dX6_wind_33 : decode cX6_wind 33 = .ok (.aload 4, 2) := by decide +kernel
theorem dX6_wind_35 : decode cX6_wind 35 = .ok (.getfield 245, 3) := by decide +kernel
theorem dX6_wind_38 : decode cX6_wind 38 = .ok (.iconst 2, 1) := by decide +kernel
theorem dX6_wind_39 : decode cX6_wind 39 = .ok (.if_icmp .ne 35, 3) := by decide +kernel
theorem dX6_wind_42 : decode cX6_wind 42 = .ok (.aload 4, 2) := by decide +kernel
theorem dX6_wind_44 : decode cX6_wind 44 = .ok (.getfield 128, 3) := by decide +kernel
theorem dX6_wind_47 : decode cX6_wind 47 = .ok (.ifCond .eq 27, 3) := by decide +kernel
theorem dX6_wind_50 : decode cX6_wind 50 = .ok (.aload 4, 2) := by decide +kernel
theorem dX6_wind_52 : decode cX6_wind 52 = .ok (.getfield 236, 3) := by decide +kernel
theorem dX6_wind_55 : decode cX6_wind 55 = .ok (.invokestatic 239, 3) := by decide +kernel
theorem dX6_wind_58 : decode cX6_wind 58 = .ok (.iload_n 1, 1) := by decide +kernel
theorem dX6_wind_59 : decode cX6_wind 59 = .ok (.if_icmp .ne 15, 3) := by decide +kernel
theorem dX6_wind_62 : decode cX6_wind 62 = .ok (.aload 4, 2) := by decide +kernel
theorem dX6_wind_64 : decode cX6_wind 64 = .ok (.aload_n 0, 1) := by decide +kernel
theorem dX6_wind_65 : decode cX6_wind 65 = .ok (.getfield 60, 3) := by decide +kernel
theorem dX6_wind_68 : decode cX6_wind 68 = .ok (.putfield 248, 3) := by decide +kernel
theorem dX6_wind_71 : decode cX6_wind 71 = .ok (.iinc 2 1, 3) := by decide +kernel
theorem dX6_wind_74 : decode cX6_wind 74 = .ok (.iinc 3 1, 3) := by decide +kernel
theorem dX6_wind_77 : decode cX6_wind 77 = .ok (.goto (-68), 3) := by decide +kernel
theorem dX6_wind_80 : decode cX6_wind 80 = .ok (.iload_n 2, 1) := by decide +kernel
theorem dX6_wind_81 : decode cX6_wind 81 = .ok (.ireturn, 1) := by decide +kernel
theorem dX6_pass_0 : decode cX6_pass 0 = .ok (.iload_n 1, 1) := by decide +kernel
theorem dX6_pass_1 : decode cX6_pass 1 = .ok (.iconst 1, 1) := by decide +kernel
theorem dX6_pass_2 : decode cX6_pass 2 = .ok (.sipush 400, 3) := by decide +kernel
theorem dX6_pass_5 : decode cX6_pass 5 = .ok (.invokestatic 67, 3) := by decide +kernel
theorem dX6_pass_8 : decode cX6_pass 8 = .ok (.aload_n 0, 1) := by decide +kernel
theorem dX6_pass_9 : decode cX6_pass 9 = .ok (.getfield 60, 3) := by decide +kernel
theorem dX6_pass_12 : decode cX6_pass 12 = .ok (.iload_n 1, 1) := by decide +kernel
theorem dX6_pass_13 : decode cX6_pass 13 = .ok (.iadd, 1) := by decide +kernel
theorem dX6_pass_14 : decode cX6_pass 14 = .ok (.sipush 5000, 3) := by decide +kernel
theorem dX6_pass_17 : decode cX6_pass 17 = .ok (.if_icmp .gt 7, 3) := by decide +kernel
theorem dX6_pass_20 : decode cX6_pass 20 = .ok (.iconst 1, 1) := by decide +kernel
theorem dX6_pass_21 : decode cX6_pass 21 = .ok (.goto 4, 3) := by decide +kernel
theorem dX6_pass_24 : decode cX6_pass 24 = .ok (.iconst 0, 1) := by decide +kernel
theorem dX6_pass_25 : decode cX6_pass 25 = .ok (.invokestatic 75, 3) := by decide +kernel
theorem dX6_pass_28 : decode cX6_pass 28 = .ok (.iconst 0, 1) := by decide +kernel
theorem dX6_pass_29 : decode cX6_pass 29 = .ok (.istore_n 2, 1) := by decide +kernel
theorem dX6_pass_30 : decode cX6_pass 30 = .ok (.iload_n 2, 1) := by decide +kernel
theorem dX6_pass_31 : decode cX6_pass 31 = .ok (.iload_n 1, 1) := by decide +kernel
theorem dX6_pass_32 : decode cX6_pass 32 = .ok (.if_icmp .ge 13, 3) := by decide +kernel
theorem dX6_pass_35 : decode cX6_pass 35 = .ok (.aload_n 0, 1) := by decide +kernel
theorem dX6_pass_36 : decode cX6_pass 36 = .ok (.invokevirtual 251, 3) := by decide +kernel
theorem dX6_pass_39 : decode cX6_pass 39 = .ok (.iinc 2 1, 3) := by decide +kernel
theorem dX6_pass_42 : decode cX6_pass 42 = .ok (.goto (-12), 3) := by decide +kernel
theorem dX6_pass_45 : decode cX6_pass 45 = .ok (.aload_n 0, 1) := by decide +kernel
theorem dX6_pass_46 : decode cX6_pass 46 = .ok (.getfield 60, 3) := by decide +kernel
theorem dX6_pass_49 : decode cX6_pass 49 = .ok (.ireturn, 1) := by decide +kernel
theorem dX6_offer_0 : decode cX6_offer 0 = .ok (.aload_n 0, 1) := by decide +kernel
theorem dX6_offer_1 : decode cX6_offer 1 = .ok (.iload_n 1, 1) := by decide +kernel
theorem dX6_offer_2 : decode cX6_offer 2 = .ok (.invokevirtual 170, 3) := by decide +kernel
theorem dX6_offer_5 : decode cX6_offer 5 = .ok (.astore_n 3, 1) := by decide +kernel
theorem dX6_offer_6 : decode cX6_offer 6 = .ok (.iload_n 2, 1) := by decide +kernel
theorem dX6_offer_7 : decode cX6_offer 7 = .ok (.iconst 0, 1) := by decide +kernel
theorem dX6_offer_8 : decode cX6_offer 8 = .ok (.ldc 97, 2) := by decide +kernel
theorem dX6_offer_10 : decode cX6_offer 10 = .ok (.invokestatic 67, 3) := by decide +kernel
theorem dX6_offer_13 : decode cX6_offer 13 = .ok (.aload_n 0, 1) := by decide +kernel
theorem dX6_offer_14 : decode cX6_offer 14 = .ok (.aload_n 3, 1) := by decide +kernel
theorem dX6_offer_15 : decode cX6_offer 15 = .ok (.invokevirtual 254, 3) := by decide +kernel
theorem dX6_offer_18 : decode cX6_offer 18 = .ok (.invokestatic 75, 3) := by decide +kernel
theorem dX6_offer_21 : decode cX6_offer 21 = .ok (.aload_n 0, 1) := by decide +kernel
theorem dX6_offer_22 : decode cX6_offer 22 = .ok (.aload_n 3, 1) := by decide +kernel
theorem dX6_offer_23 : decode cX6_offer 23 = .ok (.invokevirtual 193, 3) := by decide +kernel
theorem dX6_offer_26 : decode cX6_offer 26 = .ok (.istore 4, 2) := by decide +kernel
theorem dX6_offer_28 : decode cX6_offer 28 = .ok (.iload_n 2, 1) := by decide +kernel
theorem dX6_offer_29 : decode cX6_offer 29 = .ok (.aload_n 3, 1) := by decide +kernel
theorem dX6_offer_30 : decode cX6_offer 30 = .ok (.iload 4, 2) := by decide +kernel
theorem dX6_offer_32 : decode cX6_offer 32 = .ok (.invokestatic 258, 3) := by decide +kernel
theorem dX6_offer_35 : decode cX6_offer 35 = .ok (.if_icmp .ge 17, 3) := by decide +kernel
theorem dX6_offer_38 : decode cX6_offer 38 = .ok (.aload_n 3, 1) := by decide +kernel
theorem dX6_offer_39 : decode cX6_offer 39 = .ok (.dup, 1) := by decide +kernel
theorem dX6_offer_40 : decode cX6_offer 40 = .ok (.getfield 262, 3) := by decide +kernel
theorem dX6_offer_43 : decode cX6_offer 43 = .ok (.iconst 1, 1) := by decide +kernel
theorem dX6_offer_44 : decode cX6_offer 44 = .ok (.iadd, 1) := by decide +kernel
theorem dX6_offer_45 : decode cX6_offer 45 = .ok (.putfield 262, 3) := by decide +kernel
theorem dX6_offer_48 : decode cX6_offer 48 = .ok (.ldc_w 267, 3) := by decide +kernel
theorem dX6_offer_51 : decode cX6_offer 51 = .ok (.ireturn, 1) := by decide +kernel
theorem dX6_offer_52 : decode cX6_offer 52 = .ok (.iload_n 2, 1) := by decide +kernel
theorem dX6_offer_53 : decode cX6_offer 53 = .ok (.iconst 5, 1) := by decide +kernel
theorem dX6_offer_54 : decode cX6_offer 54 = .ok (.imul, 1) := by decide +kernel
theorem dX6_offer_55 : decode cX6_offer 55 = .ok (.bipush 100, 2) := by decide +kernel
theorem dX6_offer_57 : decode cX6_offer 57 = .ok (.idiv, 1) := by decide +kernel
theorem dX6_offer_58 : decode cX6_offer 58 = .ok (.istore 5, 2) := by decide +kernel
theorem dX6_offer_60 : decode cX6_offer 60 = .ok (.iload_n 2, 1) := by decide +kernel
theorem dX6_offer_61 : decode cX6_offer 61 = .ok (.aload_n 3, 1) := by decide +kernel
theorem dX6_offer_62 : decode cX6_offer 62 = .ok (.getfield 190, 3) := by decide +kernel
theorem dX6_offer_65 : decode cX6_offer 65 = .ok (.isub, 1) := by decide +kernel
theorem dX6_offer_66 : decode cX6_offer 66 = .ok (.iload 4, 2) := by decide +kernel
theorem dX6_offer_68 : decode cX6_offer 68 = .ok (.isub, 1) := by decide +kernel
theorem dX6_offer_69 : decode cX6_offer 69 = .ok (.iload 5, 2) := by decide +kernel
theorem dX6_offer_71 : decode cX6_offer 71 = .ok (.isub, 1) := by decide +kernel
theorem dX6_offer_72 : decode cX6_offer 72 = .ok (.istore 6, 2) := by decide +kernel
theorem dX6_offer_74 : decode cX6_offer 74 = .ok (.aload_n 3, 1) := by decide +kernel
theorem dX6_offer_75 : decode cX6_offer 75 = .ok (.iconst 2, 1) := by decide +kernel
theorem dX6_offer_76 : decode cX6_offer 76 = .ok (.invokevirtual 197, 3) := by decide +kernel
theorem dX6_offer_79 : decode cX6_offer 79 = .ok (.aload_n 0, 1) := by decide +kernel
theorem dX6_offer_80 : decode cX6_offer 80 = .ok (.getfield 52, 3) := by decide +kernel
theorem dX6_offer_83 : decode cX6_offer 83 = .ok (.iload_n 2, 1) := by decide +kernel
theorem dX6_offer_84 : decode cX6_offer 84 = .ok (.invokevirtual 166, 3) := by decide +kernel
theorem dX6_offer_87 : decode cX6_offer 87 = .ok (.aload_n 3, 1) := by decide +kernel
theorem dX6_offer_88 : decode cX6_offer 88 = .ok (.getfield 222, 3) := by decide +kernel
theorem dX6_offer_91 : decode cX6_offer 91 = .ok (.dup, 1) := by decide +kernel
theorem dX6_offer_92 : decode cX6_offer 92 = .ok (.getfield 268, 3) := by decide +kernel
theorem dX6_offer_95 : decode cX6_offer 95 = .ok (.iload_n 2, 1) := by decide +kernel
theorem dX6_offer_96 : decode cX6_offer 96 = .ok (.aload_n 3, 1) := by decide +kernel
theorem dX6_offer_97 : decode cX6_offer 97 = .ok (.getfield 271, 3) := by decide +kernel
theorem dX6_offer_100 : decode cX6_offer 100 = .ok (.isub, 1) := by decide +kernel
theorem dX6_offer_101 : decode cX6_offer 101 = .ok (.iadd, 1) := by decide +kernel
theorem dX6_offer_102 : decode cX6_offer 102 = .ok (.putfield 268, 3) := by decide +kernel
theorem dX6_offer_105 : decode cX6_offer 105 = .ok (.iload 6, 2) := by decide +kernel
theorem dX6_offer_107 : decode cX6_offer 107 = .ok (.ifCond .ge 20, 3) := by decide +kernel
theorem dX6_offer_110 : decode cX6_offer 110 = .ok (.aload_n 3, 1) := by decide +kernel
theorem dX6_offer_111 : decode cX6_offer 111 = .ok (.getfield 222, 3) := by decide +kernel
theorem dX6_offer_114 : decode cX6_offer 114 = .ok (.dup, 1) := by decide +kernel
theorem dX6_offer_115 : decode cX6_offer 115 = .ok (.getfield 226, 3) := by decide +kernel
theorem dX6_offer_118 : decode cX6_offer 118 = .ok (.iload 6, 2) := by decide +kernel
theorem dX6_offer_120 : decode cX6_offer 120 = .ok (.isub, 1) := by decide +kernel
theorem dX6_offer_121 : decode cX6_offer 121 = .ok (.putfield 226, 3) := by decide +kernel
theorem dX6_offer_124 : decode cX6_offer 124 = .ok (.goto 31, 3) := by decide +kernel
theorem dX6_offer_127 : decode cX6_offer 127 = .ok (.aload_n 3, 1) := by decide +kernel
theorem dX6_offer_128 : decode cX6_offer 128 = .ok (.iload 6, 2) := by decide +kernel
theorem dX6_offer_130 : decode cX6_offer 130 = .ok (.putfield 274, 3) := by decide +kernel
theorem dX6_offer_133 : decode cX6_offer 133 = .ok (.aload_n 3, 1) := by decide +kernel
theorem dX6_offer_134 : decode cX6_offer 134 = .ok (.aload_n 0, 1) := by decide +kernel
theorem dX6_offer_135 : decode cX6_offer 135 = .ok (.getfield 60, 3) := by decide +kernel
theorem dX6_offer_138 : decode cX6_offer 138 = .ok (.putfield 277, 3) := by decide +kernel
theorem dX6_offer_141 : decode cX6_offer 141 = .ok (.aload_n 0, 1) := by decide +kernel
theorem dX6_offer_142 : decode cX6_offer 142 = .ok (.getfield 52, 3) := by decide +kernel
theorem dX6_offer_145 : decode cX6_offer 145 = .ok (.dup, 1) := by decide +kernel
theorem dX6_offer_146 : decode cX6_offer 146 = .ok (.getfield 280, 3) := by decide +kernel
theorem dX6_offer_149 : decode cX6_offer 149 = .ok (.iload 6, 2) := by decide +kernel
theorem dX6_offer_151 : decode cX6_offer 151 = .ok (.iadd, 1) := by decide +kernel
theorem dX6_offer_152 : decode cX6_offer 152 = .ok (.putfield 280, 3) := by decide +kernel
theorem dX6_offer_155 : decode cX6_offer 155 = .ok (.iload 6, 2) := by decide +kernel
theorem dX6_offer_157 : decode cX6_offer 157 = .ok (.ireturn, 1) := by decide +kernel
theorem dX6_claim_0 : decode cX6_claim 0 = .ok (.aload_n 0, 1) := by decide +kernel
theorem dX6_claim_1 : decode cX6_claim 1 = .ok (.iload_n 1, 1) := by decide +kernel
theorem dX6_claim_2 : decode cX6_claim 2 = .ok (.invokevirtual 170, 3) := by decide +kernel
theorem dX6_claim_5 : decode cX6_claim 5 = .ok (.astore_n 3, 1) := by decide +kernel
theorem dX6_claim_6 : decode cX6_claim 6 = .ok (.iload_n 2, 1) := by decide +kernel
theorem dX6_claim_7 : decode cX6_claim 7 = .ok (.bipush 10, 2) := by decide +kernel
theorem dX6_claim_9 : decode cX6_claim 9 = .ok (.invokestatic 63, 3) := by decide +kernel
theorem dX6_claim_12 : decode cX6_claim 12 = .ok (.aload_n 3, 1) := by decide +kernel
theorem dX6_claim_13 : decode cX6_claim 13 = .ok (.getfield 274, 3) := by decide +kernel
theorem dX6_claim_16 : decode cX6_claim 16 = .ok (.ifCond .le 22, 3) := by decide +kernel
theorem dX6_claim_19 : decode cX6_claim 19 = .ok (.aload_n 3, 1) := by decide +kernel
theorem dX6_claim_20 : decode cX6_claim 20 = .ok (.invokevirtual 206, 3) := by decide +kernel
theorem dX6_claim_23 : decode cX6_claim 23 = .ok (.ifCond .ne 15, 3) := by decide +kernel
theorem dX6_claim_26 : decode cX6_claim 26 = .ok (.aload_n 3, 1) := by decide +kernel
theorem dX6_claim_27 : decode cX6_claim 27 = .ok (.getfield 180, 3) := by decide +kernel
theorem dX6_claim_30 : decode cX6_claim 30 = .ok (.iload_n 2, 1) := by decide +kernel
theorem dX6_claim_31 : decode cX6_claim 31 = .ok (.if_icmp .ne 7, 3) := by decide +kernel
theorem dX6_claim_34 : decode cX6_claim 34 = .ok (.iconst 1, 1) := by decide +kernel
theorem dX6_claim_35 : decode cX6_claim 35 = .ok (.goto 4, 3) := by decide +kernel
theorem dX6_claim_38 : decode cX6_claim 38 = .ok (.iconst 0, 1) := by decide +kernel
theorem dX6_claim_39 : decode cX6_claim 39 = .ok (.invokestatic 75, 3) := by decide +kernel
theorem dX6_claim_42 : decode cX6_claim 42 = .ok (.aload_n 0, 1) := by decide +kernel
theorem dX6_claim_43 : decode cX6_claim 43 = .ok (.aload_n 3, 1) := by decide +kernel
theorem dX6_claim_44 : decode cX6_claim 44 = .ok (.invokevirtual 283, 3) := by decide +kernel
theorem dX6_claim_47 : decode cX6_claim 47 = .ok (.ireturn, 1) := by decide +kernel
theorem dX6_deposit_0 : decode cX6_deposit 0 = .ok (.iload_n 1, 1) := by decide +kernel
theorem dX6_deposit_1 : decode cX6_deposit 1 = .ok (.iconst 1, 1) := by decide +kernel
theorem dX6_deposit_2 : decode cX6_deposit 2 = .ok (.ldc 97, 2) := by decide +kernel
theorem dX6_deposit_4 : decode cX6_deposit 4 = .ok (.invokestatic 67, 3) := by decide +kernel
theorem dX6_deposit_7 : decode cX6_deposit 7 = .ok (.aload_n 0, 1) := by decide +kernel
theorem dX6_deposit_8 : decode cX6_deposit 8 = .ok (.getfield 52, 3) := by decide +kernel
theorem dX6_deposit_11 : decode cX6_deposit 11 = .ok (.getfield 286, 3) := by decide +kernel
theorem dX6_deposit_14 : decode cX6_deposit 14 = .ok (.ldc_w 289, 3) := by decide +kernel
theorem dX6_deposit_17 : decode cX6_deposit 17 = .ok (.iload_n 1, 1) := by decide +kernel
theorem dX6_deposit_18 : decode cX6_deposit 18 = .ok (.isub, 1) := by decide +kernel
theorem dX6_deposit_19 : decode cX6_deposit 19 = .ok (.if_icmp .gt 7, 3) := by decide +kernel
theorem dX6_deposit_22 : decode cX6_deposit 22 = .ok (.iconst 1, 1) := by decide +kernel
theorem dX6_deposit_23 : decode cX6_deposit 23 = .ok (.goto 4, 3) := by decide +kernel
theorem dX6_deposit_26 : decode cX6_deposit 26 = .ok (.iconst 0, 1) := by decide +kernel
theorem dX6_deposit_27 : decode cX6_deposit 27 = .ok (.invokestatic 75, 3) := by decide +kernel
theorem dX6_deposit_30 : decode cX6_deposit 30 = .ok (.aload_n 0, 1) := by decide +kernel
theorem dX6_deposit_31 : decode cX6_deposit 31 = .ok (.getfield 52, 3) := by decide +kernel
theorem dX6_deposit_34 : decode cX6_deposit 34 = .ok (.iload_n 1, 1) := by decide +kernel
theorem dX6_deposit_35 : decode cX6_deposit 35 = .ok (.invokevirtual 166, 3) := by decide +kernel
theorem dX6_deposit_38 : decode cX6_deposit 38 = .ok (.aload_n 0, 1) := by decide +kernel
theorem dX6_deposit_39 : decode cX6_deposit 39 = .ok (.getfield 52, 3) := by decide +kernel
theorem dX6_deposit_42 : decode cX6_deposit 42 = .ok (.getfield 286, 3) := by decide +kernel
theorem dX6_deposit_45 : decode cX6_deposit 45 = .ok (.ireturn, 1) := by decide +kernel
theorem dX6_withdraw_0 : decode cX6_withdraw 0 = .ok (.iload_n 1, 1) := by decide +kernel
theorem dX6_withdraw_1 : decode cX6_withdraw 1 = .ok (.iconst 1, 1) := by decide +kernel
theorem dX6_withdraw_2 : decode cX6_withdraw 2 = .ok (.ldc 97, 2) := by decide +kernel
theorem dX6_withdraw_4 : decode cX6_withdraw 4 = .ok (.invokestatic 67, 3) := by decide +kernel
theorem dX6_withdraw_7 : decode cX6_withdraw 7 = .ok (.iload_n 1, 1) := by decide +kernel
theorem dX6_withdraw_8 : decode cX6_withdraw 8 = .ok (.aload_n 0, 1) := by decide +kernel
theorem dX6_withdraw_9 : decode cX6_withdraw 9 = .ok (.getfield 52, 3) := by decide +kernel
theorem dX6_withdraw_12 : decode cX6_withdraw 12 = .ok (.invokevirtual 290, 3) := by decide +kernel
theorem dX6_withdraw_15 : decode cX6_withdraw 15 = .ok (.if_icmp .gt 7, 3) := by decide +kernel
theorem dX6_withdraw_18 : decode cX6_withdraw 18 = .ok (.iconst 1, 1) := by decide +kernel
theorem dX6_withdraw_19 : decode cX6_withdraw 19 = .ok (.goto 4, 3) := by decide +kernel
theorem dX6_withdraw_22 : decode cX6_withdraw 22 = .ok (.iconst 0, 1) := by decide +kernel
theorem dX6_withdraw_23 : decode cX6_withdraw 23 = .ok (.invokestatic 75, 3) := by decide +kernel
theorem dX6_withdraw_26 : decode cX6_withdraw 26 = .ok (.aload_n 0, 1) := by decide +kernel
theorem dX6_withdraw_27 : decode cX6_withdraw 27 = .ok (.getfield 52, 3) := by decide +kernel
theorem dX6_withdraw_30 : decode cX6_withdraw 30 = .ok (.iload_n 1, 1) := by decide +kernel
theorem dX6_withdraw_31 : decode cX6_withdraw 31 = .ok (.ineg, 1) := by decide +kernel
theorem dX6_withdraw_32 : decode cX6_withdraw 32 = .ok (.invokevirtual 166, 3) := by decide +kernel
theorem dX6_withdraw_35 : decode cX6_withdraw 35 = .ok (.aload_n 0, 1) := by decide +kernel
theorem dX6_withdraw_36 : decode cX6_withdraw 36 = .ok (.getfield 52, 3) := by decide +kernel
theorem dX6_withdraw_39 : decode cX6_withdraw 39 = .ok (.getfield 286, 3) := by decide +kernel
theorem dX6_withdraw_42 : decode cX6_withdraw 42 = .ok (.ireturn, 1) := by decide +kernel
theorem dX6_day_0 : decode cX6_day 0 = .ok (.aload_n 0, 1) := by decide +kernel
theorem dX6_day_1 : decode cX6_day 1 = .ok (.getfield 60, 3) := by decide +kernel
theorem dX6_day_4 : decode cX6_day 4 = .ok (.ireturn, 1) := by decide +kernel
theorem dX6_thingOf_0 : decode cX6_thingOf 0 = .ok (.aload_n 0, 1) := by decide +kernel
theorem dX6_thingOf_1 : decode cX6_thingOf 1 = .ok (.iload_n 1, 1) := by decide +kernel
theorem dX6_thingOf_2 : decode cX6_thingOf 2 = .ok (.invokevirtual 124, 3) := by decide +kernel
theorem dX6_thingOf_5 : decode cX6_thingOf 5 = .ok (.astore_n 3, 1) := by decide +kernel
theorem dX6_thingOf_6 : decode cX6_thingOf 6 = .ok (.iload_n 2, 1) := by decide +kernel
theorem dX6_thingOf_7 : decode cX6_thingOf 7 = .ok (.iconst 0, 1) := by decide +kernel
theorem dX6_thingOf_8 : decode cX6_thingOf 8 = .ok (.bipush 6, 2) := by decide +kernel
theorem dX6_thingOf_10 : decode cX6_thingOf 10 = .ok (.invokestatic 67, 3) := by decide +kernel
theorem dX6_thingOf_13 : decode cX6_thingOf 13 = .ok (.iload_n 2, 1) := by decide +kernel
theorem dX6_thingOf_14 : decode cX6_thingOf 14 = .ok (.tableswitch 77 0 5 #[38, 43, 49, 54, 67, 72], 38) := by decide +kernel
theorem dX6_thingOf_52 : decode cX6_thingOf 52 = .ok (.aload_n 3, 1) := by decide +kernel
theorem dX6_thingOf_53 : decode cX6_thingOf 53 = .ok (.getfield 245, 3) := by decide +kernel
theorem dX6_thingOf_56 : decode cX6_thingOf 56 = .ok (.ireturn, 1) := by decide +kernel
theorem dX6_thingOf_57 : decode cX6_thingOf 57 = .ok (.aload_n 0, 1) := by decide +kernel
theorem dX6_thingOf_58 : decode cX6_thingOf 58 = .ok (.aload_n 3, 1) := by decide +kernel
theorem dX6_thingOf_59 : decode cX6_thingOf 59 = .ok (.invokevirtual 135, 3) := by decide +kernel
theorem dX6_thingOf_62 : decode cX6_thingOf 62 = .ok (.ireturn, 1) := by decide +kernel
theorem dX6_thingOf_63 : decode cX6_thingOf 63 = .ok (.aload_n 3, 1) := by decide +kernel
theorem dX6_thingOf_64 : decode cX6_thingOf 64 = .ok (.getfield 293, 3) := by decide +kernel
theorem dX6_thingOf_67 : decode cX6_thingOf 67 = .ok (.ireturn, 1) := by decide +kernel
theorem dX6_thingOf_68 : decode cX6_thingOf 68 = .ok (.aload_n 3, 1) := by decide +kernel
theorem dX6_thingOf_69 : decode cX6_thingOf 69 = .ok (.getfield 128, 3) := by decide +kernel
theorem dX6_thingOf_72 : decode cX6_thingOf 72 = .ok (.ifCond .eq 7, 3) := by decide +kernel
theorem dX6_thingOf_75 : decode cX6_thingOf 75 = .ok (.iconst 1, 1) := by decide +kernel
theorem dX6_thingOf_76 : decode cX6_thingOf 76 = .ok (.goto 4, 3) := by decide +kernel
theorem dX6_thingOf_79 : decode cX6_thingOf 79 = .ok (.iconst 0, 1) := by decide +kernel
theorem dX6_thingOf_80 : decode cX6_thingOf 80 = .ok (.ireturn, 1) := by decide +kernel
theorem dX6_thingOf_81 : decode cX6_thingOf 81 = .ok (.aload_n 3, 1) := by decide +kernel
theorem dX6_thingOf_82 : decode cX6_thingOf 82 = .ok (.getfield 242, 3) := by decide +kernel
theorem dX6_thingOf_85 : decode cX6_thingOf 85 = .ok (.ireturn, 1) := by decide +kernel
theorem dX6_thingOf_86 : decode cX6_thingOf 86 = .ok (.aload_n 3, 1) := by decide +kernel
theorem dX6_thingOf_87 : decode cX6_thingOf 87 = .ok (.invokevirtual 215, 3) := by decide +kernel
theorem dX6_thingOf_90 : decode cX6_thingOf 90 = .ok (.ireturn, 1) := by decide +kernel
theorem dX6_thingOf_91 : decode cX6_thingOf 91 = .ok (.aload_n 3, 1) := by decide +kernel
theorem dX6_thingOf_92 : decode cX6_thingOf 92 = .ok (.getfield 132, 3) := by decide +kernel
theorem dX6_thingOf_95 : decode cX6_thingOf 95 = .ok (.ifCond .eq 7, 3) := by decide +kernel
theorem dX6_thingOf_98 : decode cX6_thingOf 98 = .ok (.iconst 1, 1) := by decide +kernel
theorem dX6_thingOf_99 : decode cX6_thingOf 99 = .ok (.goto 4, 3) := by decide +kernel
theorem dX6_thingOf_102 : decode cX6_thingOf 102 = .ok (.iconst 0, 1) := by decide +kernel
theorem dX6_thingOf_103 : decode cX6_thingOf 103 = .ok (.ireturn, 1) := by decide +kernel
theorem dX6_ticketOf_0 : decode cX6_ticketOf 0 = .ok (.aload_n 0, 1) := by decide +kernel
theorem dX6_ticketOf_1 : decode cX6_ticketOf 1 = .ok (.iload_n 1, 1) := by decide +kernel
theorem dX6_ticketOf_2 : decode cX6_ticketOf 2 = .ok (.invokevirtual 170, 3) := by decide +kernel
theorem dX6_ticketOf_5 : decode cX6_ticketOf 5 = .ok (.astore_n 3, 1) := by decide +kernel
theorem dX6_ticketOf_6 : decode cX6_ticketOf 6 = .ok (.iload_n 2, 1) := by decide +kernel
theorem dX6_ticketOf_7 : decode cX6_ticketOf 7 = .ok (.iconst 0, 1) := by decide +kernel
theorem dX6_ticketOf_8 : decode cX6_ticketOf 8 = .ok (.bipush 9, 2) := by decide +kernel
theorem dX6_ticketOf_10 : decode cX6_ticketOf 10 = .ok (.invokestatic 67, 3) := by decide +kernel
theorem dX6_ticketOf_13 : decode cX6_ticketOf 13 = .ok (.iload_n 2, 1) := by decide +kernel
theorem dX6_ticketOf_14 : decode cX6_ticketOf 14 = .ok (.tableswitch 120 0 8 #[50, 55, 63, 68, 74, 79, 84, 89, 94], 50) := by decide +kernel
theorem dX6_ticketOf_64 : decode cX6_ticketOf 64 = .ok (.aload_n 3, 1) := by decide +kernel
theorem dX6_ticketOf_65 : decode cX6_ticketOf 65 = .ok (.getfield 174, 3) := by decide +kernel
theorem dX6_ticketOf_68 : decode cX6_ticketOf 68 = .ok (.ireturn, 1) := by decide +kernel
theorem dX6_ticketOf_69 : decode cX6_ticketOf 69 = .ok (.aload_n 3, 1) := by decide +kernel
theorem dX6_ticketOf_70 : decode cX6_ticketOf 70 = .ok (.getfield 183, 3) := by decide +kernel
theorem dX6_ticketOf_73 : decode cX6_ticketOf 73 = .ok (.getfield 88, 3) := by decide +kernel
theorem dX6_ticketOf_76 : decode cX6_ticketOf 76 = .ok (.ireturn, 1) := by decide +kernel
theorem dX6_ticketOf_77 : decode cX6_ticketOf 77 = .ok (.aload_n 3, 1) := by decide +kernel
theorem dX6_ticketOf_78 : decode cX6_ticketOf 78 = .ok (.getfield 190, 3) := by decide +kernel
theorem dX6_ticketOf_81 : decode cX6_ticketOf 81 = .ok (.ireturn, 1) := by decide +kernel
theorem dX6_ticketOf_82 : decode cX6_ticketOf 82 = .ok (.aload_n 0, 1) := by decide +kernel
theorem dX6_ticketOf_83 : decode cX6_ticketOf 83 = .ok (.aload_n 3, 1) := by decide +kernel
theorem dX6_ticketOf_84 : decode cX6_ticketOf 84 = .ok (.invokevirtual 193, 3) := by decide +kernel
theorem dX6_ticketOf_87 : decode cX6_ticketOf 87 = .ok (.ireturn, 1) := by decide +kernel
theorem dX6_ticketOf_88 : decode cX6_ticketOf 88 = .ok (.aload_n 3, 1) := by decide +kernel
theorem dX6_ticketOf_89 : decode cX6_ticketOf 89 = .ok (.getfield 180, 3) := by decide +kernel
theorem dX6_ticketOf_92 : decode cX6_ticketOf 92 = .ok (.ireturn, 1) := by decide +kernel
theorem dX6_ticketOf_93 : decode cX6_ticketOf 93 = .ok (.aload_n 3, 1) := by decide +kernel
theorem dX6_ticketOf_94 : decode cX6_ticketOf 94 = .ok (.getfield 296, 3) := by decide +kernel
theorem dX6_ticketOf_97 : decode cX6_ticketOf 97 = .ok (.ireturn, 1) := by decide +kernel
theorem dX6_ticketOf_98 : decode cX6_ticketOf 98 = .ok (.aload_n 3, 1) := by decide +kernel
theorem dX6_ticketOf_99 : decode cX6_ticketOf 99 = .ok (.invokevirtual 299, 3) := by decide +kernel
theorem dX6_ticketOf_102 : decode cX6_ticketOf 102 = .ok (.ireturn, 1) := by decide +kernel
theorem dX6_ticketOf_103 : decode cX6_ticketOf 103 = .ok (.aload_n 3, 1) := by decide +kernel
theorem dX6_ticketOf_104 : decode cX6_ticketOf 104 = .ok (.getfield 274, 3) := by decide +kernel
theorem dX6_ticketOf_107 : decode cX6_ticketOf 107 = .ok (.ireturn, 1) := by decide +kernel
theorem dX6_ticketOf_108 : decode cX6_ticketOf 108 = .ok (.aload_n 3, 1) := by decide +kernel
theorem dX6_ticketOf_109 : decode cX6_ticketOf 109 = .ok (.invokevirtual 206, 3) := by decide +kernel
theorem dX6_ticketOf_112 : decode cX6_ticketOf 112 = .ok (.ifCond .eq 7, 3) := by decide +kernel
theorem dX6_ticketOf_115 : decode cX6_ticketOf 115 = .ok (.iconst 1, 1) := by decide +kernel
theorem dX6_ticketOf_116 : decode cX6_ticketOf 116 = .ok (.goto 4, 3) := by decide +kernel
theorem dX6_ticketOf_119 : decode cX6_ticketOf 119 = .ok (.iconst 0, 1) := by decide +kernel
theorem dX6_ticketOf_120 : decode cX6_ticketOf 120 = .ok (.aload_n 3, 1) := by decide +kernel
theorem dX6_ticketOf_121 : decode cX6_ticketOf 121 = .ok (.invokevirtual 302, 3) := by decide +kernel
theorem dX6_ticketOf_124 : decode cX6_ticketOf 124 = .ok (.ifCond .eq 7, 3) := by decide +kernel
theorem dX6_ticketOf_127 : decode cX6_ticketOf 127 = .ok (.iconst 2, 1) := by decide +kernel
theorem dX6_ticketOf_128 : decode cX6_ticketOf 128 = .ok (.goto 4, 3) := by decide +kernel
theorem dX6_ticketOf_131 : decode cX6_ticketOf 131 = .ok (.iconst 0, 1) := by decide +kernel
theorem dX6_ticketOf_132 : decode cX6_ticketOf 132 = .ok (.iadd, 1) := by decide +kernel
theorem dX6_ticketOf_133 : decode cX6_ticketOf 133 = .ok (.ireturn, 1) := by decide +kernel
theorem dX6_ticketOf_134 : decode cX6_ticketOf 134 = .ok (.aload_n 3, 1) := by decide +kernel
theorem dX6_ticketOf_135 : decode cX6_ticketOf 135 = .ok (.getfield 262, 3) := by decide +kernel
theorem dX6_ticketOf_138 : decode cX6_ticketOf 138 = .ok (.ireturn, 1) := by decide +kernel
theorem dX6_interestAnew_0 : decode cX6_interestAnew 0 = .ok (.aload_n 0, 1) := by decide +kernel
theorem dX6_interestAnew_1 : decode cX6_interestAnew 1 = .ok (.iload_n 1, 1) := by decide +kernel
theorem dX6_interestAnew_2 : decode cX6_interestAnew 2 = .ok (.invokevirtual 170, 3) := by decide +kernel
theorem dX6_interestAnew_5 : decode cX6_interestAnew 5 = .ok (.astore_n 2, 1) := by decide +kernel
theorem dX6_interestAnew_6 : decode cX6_interestAnew 6 = .ok (.aload_n 2, 1) := by decide +kernel
theorem dX6_interestAnew_7 : decode cX6_interestAnew 7 = .ok (.getfield 174, 3) := by decide +kernel
theorem dX6_interestAnew_10 : decode cX6_interestAnew 10 = .ok (.ifCond .ne 25, 3) := by decide +kernel
theorem dX6_interestAnew_13 : decode cX6_interestAnew 13 = .ok (.aload_n 0, 1) := by decide +kernel
theorem dX6_interestAnew_14 : decode cX6_interestAnew 14 = .ok (.getfield 45, 3) := by decide +kernel
theorem dX6_interestAnew_17 : decode cX6_interestAnew 17 = .ok (.aload_n 2, 1) := by decide +kernel
theorem dX6_interestAnew_18 : decode cX6_interestAnew 18 = .ok (.getfield 190, 3) := by decide +kernel
theorem dX6_interestAnew_21 : decode cX6_interestAnew 21 = .ok (.aload_n 2, 1) := by decide +kernel
theorem dX6_interestAnew_22 : decode cX6_interestAnew 22 = .ok (.getfield 296, 3) := by decide +kernel
theorem dX6_interestAnew_25 : decode cX6_interestAnew 25 = .ok (.aload_n 0, 1) := by decide +kernel
theorem dX6_interestAnew_26 : decode cX6_interestAnew 26 = .ok (.getfield 60, 3) := by decide +kernel
theorem dX6_interestAnew_29 : decode cX6_interestAnew 29 = .ok (.invokevirtual 305, 3) := by decide +kernel
theorem dX6_interestAnew_32 : decode cX6_interestAnew 32 = .ok (.goto 4, 3) := by decide +kernel
theorem dX6_interestAnew_35 : decode cX6_interestAnew 35 = .ok (.iconst 0, 1) := by decide +kernel
theorem dX6_interestAnew_36 : decode cX6_interestAnew 36 = .ok (.ireturn, 1) := by decide +kernel
theorem dX6_expertOf_0 : decode cX6_expertOf 0 = .ok (.iload_n 1, 1) := by decide +kernel
theorem dX6_expertOf_1 : decode cX6_expertOf 1 = .ok (.aload_n 0, 1) := by decide +kernel
theorem dX6_expertOf_2 : decode cX6_expertOf 2 = .ok (.getfield 26, 3) := by decide +kernel
theorem dX6_expertOf_5 : decode cX6_expertOf 5 = .ok (.arraylength, 1) := by decide +kernel
theorem dX6_expertOf_6 : decode cX6_expertOf 6 = .ok (.invokestatic 63, 3) := by decide +kernel
theorem dX6_expertOf_9 : decode cX6_expertOf 9 = .ok (.iload_n 2, 1) := by decide +kernel
theorem dX6_expertOf_10 : decode cX6_expertOf 10 = .ok (.iconst 0, 1) := by decide +kernel
theorem dX6_expertOf_11 : decode cX6_expertOf 11 = .ok (.iconst 2, 1) := by decide +kernel
theorem dX6_expertOf_12 : decode cX6_expertOf 12 = .ok (.invokestatic 67, 3) := by decide +kernel
theorem dX6_expertOf_15 : decode cX6_expertOf 15 = .ok (.iload_n 2, 1) := by decide +kernel
theorem dX6_expertOf_16 : decode cX6_expertOf 16 = .ok (.lookupswitch 48 #[(0, 28), (1, 38)], 28) := by decide +kernel
theorem dX6_expertOf_44 : decode cX6_expertOf 44 = .ok (.aload_n 0, 1) := by decide +kernel
theorem dX6_expertOf_45 : decode cX6_expertOf 45 = .ok (.getfield 26, 3) := by decide +kernel
theorem dX6_expertOf_48 : decode cX6_expertOf 48 = .ok (.iload_n 1, 1) := by decide +kernel
theorem dX6_expertOf_49 : decode cX6_expertOf 49 = .ok (.aaload, 1) := by decide +kernel
theorem dX6_expertOf_50 : decode cX6_expertOf 50 = .ok (.getfield 91, 3) := by decide +kernel
theorem dX6_expertOf_53 : decode cX6_expertOf 53 = .ok (.ireturn, 1) := by decide +kernel
theorem dX6_expertOf_54 : decode cX6_expertOf 54 = .ok (.aload_n 0, 1) := by decide +kernel
theorem dX6_expertOf_55 : decode cX6_expertOf 55 = .ok (.getfield 26, 3) := by decide +kernel
theorem dX6_expertOf_58 : decode cX6_expertOf 58 = .ok (.iload_n 1, 1) := by decide +kernel
theorem dX6_expertOf_59 : decode cX6_expertOf 59 = .ok (.aaload, 1) := by decide +kernel
theorem dX6_expertOf_60 : decode cX6_expertOf 60 = .ok (.getfield 226, 3) := by decide +kernel
theorem dX6_expertOf_63 : decode cX6_expertOf 63 = .ok (.ireturn, 1) := by decide +kernel
theorem dX6_expertOf_64 : decode cX6_expertOf 64 = .ok (.aload_n 0, 1) := by decide +kernel
theorem dX6_expertOf_65 : decode cX6_expertOf 65 = .ok (.getfield 26, 3) := by decide +kernel
theorem dX6_expertOf_68 : decode cX6_expertOf 68 = .ok (.iload_n 1, 1) := by decide +kernel
theorem dX6_expertOf_69 : decode cX6_expertOf 69 = .ok (.aaload, 1) := by decide +kernel
theorem dX6_expertOf_70 : decode cX6_expertOf 70 = .ok (.getfield 268, 3) := by decide +kernel
theorem dX6_expertOf_73 : decode cX6_expertOf 73 = .ok (.ireturn, 1) := by decide +kernel
theorem dX6_bears_0 : decode cX6_bears 0 = .ok (.iload_n 1, 1) := by decide +kernel
theorem dX6_bears_1 : decode cX6_bears 1 = .ok (.iconst 3, 1) := by decide +kernel
theorem dX6_bears_2 : decode cX6_bears 2 = .ok (.invokestatic 63, 3) := by decide +kernel
theorem dX6_bears_5 : decode cX6_bears 5 = .ok (.iload_n 2, 1) := by decide +kernel
theorem dX6_bears_6 : decode cX6_bears 6 = .ok (.iconst 4, 1) := by decide +kernel
theorem dX6_bears_7 : decode cX6_bears 7 = .ok (.invokestatic 63, 3) := by decide +kernel
theorem dX6_bears_10 : decode cX6_bears 10 = .ok (.aload_n 0, 1) := by decide +kernel
theorem dX6_bears_11 : decode cX6_bears 11 = .ok (.iload_n 1, 1) := by decide +kernel
theorem dX6_bears_12 : decode cX6_bears 12 = .ok (.iload_n 2, 1) := by decide +kernel
theorem dX6_bears_13 : decode cX6_bears 13 = .ok (.invokestatic 159, 3) := by decide +kernel
theorem dX6_bears_16 : decode cX6_bears 16 = .ok (.aconst_null, 1) := by decide +kernel
theorem dX6_bears_17 : decode cX6_bears 17 = .ok (.invokevirtual 309, 3) := by decide +kernel
theorem dX6_bears_20 : decode cX6_bears 20 = .ok (.ireturn, 1) := by decide +kernel
theorem dX6_money_0 : decode cX6_money 0 = .ok (.iload_n 1, 1) := by decide +kernel
theorem dX6_money_1 : decode cX6_money 1 = .ok (.iconst 0, 1) := by decide +kernel
theorem dX6_money_2 : decode cX6_money 2 = .ok (.iconst 3, 1) := by decide +kernel
theorem dX6_money_3 : decode cX6_money 3 = .ok (.invokestatic 67, 3) := by decide +kernel
theorem dX6_money_6 : decode cX6_money 6 = .ok (.iload_n 1, 1) := by decide +kernel
theorem dX6_money_7 : decode cX6_money 7 = .ok (.tableswitch 49 0 2 #[25, 33, 41], 25) := by decide +kernel
theorem dX6_money_32 : decode cX6_money 32 = .ok (.aload_n 0, 1) := by decide +kernel
theorem dX6_money_33 : decode cX6_money 33 = .ok (.getfield 52, 3) := by decide +kernel
theorem dX6_money_36 : decode cX6_money 36 = .ok (.getfield 286, 3) := by decide +kernel
theorem dX6_money_39 : decode cX6_money 39 = .ok (.ireturn, 1) := by decide +kernel
theorem dX6_money_40 : decode cX6_money 40 = .ok (.aload_n 0, 1) := by decide +kernel
theorem dX6_money_41 : decode cX6_money 41 = .ok (.getfield 52, 3) := by decide +kernel
theorem dX6_money_44 : decode cX6_money 44 = .ok (.getfield 280, 3) := by decide +kernel
theorem dX6_money_47 : decode cX6_money 47 = .ok (.ireturn, 1) := by decide +kernel
theorem dX6_money_48 : decode cX6_money 48 = .ok (.aload_n 0, 1) := by decide +kernel
theorem dX6_money_49 : decode cX6_money 49 = .ok (.getfield 52, 3) := by decide +kernel
theorem dX6_money_52 : decode cX6_money 52 = .ok (.invokevirtual 290, 3) := by decide +kernel
theorem dX6_money_55 : decode cX6_money 55 = .ok (.ireturn, 1) := by decide +kernel
theorem dX6_money_56 : decode cX6_money 56 = .ok (.aload_n 0, 1) := by decide +kernel
theorem dX6_money_57 : decode cX6_money 57 = .ok (.getfield 52, 3) := by decide +kernel
theorem dX6_money_60 : decode cX6_money 60 = .ok (.getfield 313, 3) := by decide +kernel
theorem dX6_money_63 : decode cX6_money 63 = .ok (.ireturn, 1) := by decide +kernel
theorem dX6_moneyAnew_0 : decode cX6_moneyAnew 0 = .ok (.aload_n 0, 1) := by decide +kernel
theorem dX6_moneyAnew_1 : decode cX6_moneyAnew 1 = .ok (.getfield 52, 3) := by decide +kernel
theorem dX6_moneyAnew_4 : decode cX6_moneyAnew 4 = .ok (.invokevirtual 316, 3) := by decide +kernel
theorem dX6_moneyAnew_7 : decode cX6_moneyAnew 7 = .ok (.ireturn, 1) := by decide +kernel
theorem dX6_needIndex_0 : decode cX6_needIndex 0 = .ok (.iload_n 0, 1) := by decide +kernel
theorem dX6_needIndex_1 : decode cX6_needIndex 1 = .ok (.ifCond .lt 8, 3) := by decide +kernel
theorem dX6_needIndex_4 : decode cX6_needIndex 4 = .ok (.iload_n 0, 1) := by decide +kernel
theorem dX6_needIndex_5 : decode cX6_needIndex 5 = .ok (.iload_n 1, 1) := by decide +kernel
theorem dX6_needIndex_6 : decode cX6_needIndex 6 = .ok (.if_icmp .lt 11, 3) := by decide +kernel
theorem dX6_needIndex_9 : decode cX6_needIndex 9 = .ok (.new 319, 3) := by decide +kernel
theorem dX6_needIndex_12 : decode cX6_needIndex 12 = .ok (.dup, 1) := by decide +kernel
theorem dX6_needIndex_13 : decode cX6_needIndex 13 = .ok (.invokespecial 321, 3) := by decide +kernel
theorem dX6_needIndex_16 : decode cX6_needIndex 16 = .ok (.athrow, 1) := by decide +kernel
theorem dX6_needIndex_17 : decode cX6_needIndex 17 = .ok (.return_, 1) := by decide +kernel
theorem dX6_needRange_0 : decode cX6_needRange 0 = .ok (.iload_n 0, 1) := by decide +kernel
theorem dX6_needRange_1 : decode cX6_needRange 1 = .ok (.iload_n 1, 1) := by decide +kernel
theorem dX6_needRange_2 : decode cX6_needRange 2 = .ok (.if_icmp .lt 8, 3) := by decide +kernel
theorem dX6_needRange_5 : decode cX6_needRange 5 = .ok (.iload_n 0, 1) := by decide +kernel
theorem dX6_needRange_6 : decode cX6_needRange 6 = .ok (.iload_n 2, 1) := by decide +kernel
theorem dX6_needRange_7 : decode cX6_needRange 7 = .ok (.if_icmp .le 11, 3) := by decide +kernel
theorem dX6_needRange_10 : decode cX6_needRange 10 = .ok (.new 322, 3) := by decide +kernel
theorem dX6_needRange_13 : decode cX6_needRange 13 = .ok (.dup, 1) := by decide +kernel
theorem dX6_needRange_14 : decode cX6_needRange 14 = .ok (.invokespecial 324, 3) := by decide +kernel
theorem dX6_needRange_17 : decode cX6_needRange 17 = .ok (.athrow, 1) := by decide +kernel
theorem dX6_needRange_18 : decode cX6_needRange 18 = .ok (.return_, 1) := by decide +kernel
theorem dX6_needState_0 : decode cX6_needState 0 = .ok (.iload_n 0, 1) := by decide +kernel
theorem dX6_needState_1 : decode cX6_needState 1 = .ok (.ifCond .ne 11, 3) := by decide +kernel
theorem dX6_needState_4 : decode cX6_needState 4 = .ok (.new 325, 3) := by decide +kernel
theorem dX6_needState_7 : decode cX6_needState 7 = .ok (.dup, 1) := by decide +kernel
theorem dX6_needState_8 : decode cX6_needState 8 = .ok (.invokespecial 327, 3) := by decide +kernel
theorem dX6_needState_11 : decode cX6_needState 11 = .ok (.athrow, 1) := by decide +kernel
theorem dX6_needState_12 : decode cX6_needState 12 = .ok (.return_, 1) := by decide +kernel
theorem dX6_thingAt_0 : decode cX6_thingAt 0 = .ok (.iload_n 1, 1) := by decide +kernel
theorem dX6_thingAt_1 : decode cX6_thingAt 1 = .ok (.aload_n 0, 1) := by decide +kernel
theorem dX6_thingAt_2 : decode cX6_thingAt 2 = .ok (.getfield 10, 3) := by decide +kernel
theorem dX6_thingAt_5 : decode cX6_thingAt 5 = .ok (.invokevirtual 71, 3) := by decide +kernel
theorem dX6_thingAt_8 : decode cX6_thingAt 8 = .ok (.invokestatic 63, 3) := by decide +kernel
theorem dX6_thingAt_11 : decode cX6_thingAt 11 = .ok (.aload_n 0, 1) := by decide +kernel
theorem dX6_thingAt_12 : decode cX6_thingAt 12 = .ok (.getfield 10, 3) := by decide +kernel
theorem dX6_thingAt_15 : decode cX6_thingAt 15 = .ok (.iload_n 1, 1) := by decide +kernel
theorem dX6_thingAt_16 : decode cX6_thingAt 16 = .ok (.invokevirtual 232, 3) := by decide +kernel
theorem dX6_thingAt_19 : decode cX6_thingAt 19 = .ok (.checkcast 79, 3) := by decide +kernel
theorem dX6_thingAt_22 : decode cX6_thingAt 22 = .ok (.areturn, 1) := by decide +kernel
theorem dX6_ticketAt_0 : decode cX6_ticketAt 0 = .ok (.iload_n 1, 1) := by decide +kernel
theorem dX6_ticketAt_1 : decode cX6_ticketAt 1 = .ok (.aload_n 0, 1) := by decide +kernel
theorem dX6_ticketAt_2 : decode cX6_ticketAt 2 = .ok (.getfield 16, 3) := by decide +kernel
theorem dX6_ticketAt_5 : decode cX6_ticketAt 5 = .ok (.invokevirtual 71, 3) := by decide +kernel
theorem dX6_ticketAt_8 : decode cX6_ticketAt 8 = .ok (.invokestatic 63, 3) := by decide +kernel
theorem dX6_ticketAt_11 : decode cX6_ticketAt 11 = .ok (.aload_n 0, 1) := by decide +kernel
theorem dX6_ticketAt_12 : decode cX6_ticketAt 12 = .ok (.getfield 16, 3) := by decide +kernel
theorem dX6_ticketAt_15 : decode cX6_ticketAt 15 = .ok (.iload_n 1, 1) := by decide +kernel
theorem dX6_ticketAt_16 : decode cX6_ticketAt 16 = .ok (.invokevirtual 232, 3) := by decide +kernel
theorem dX6_ticketAt_19 : decode cX6_ticketAt 19 = .ok (.checkcast 151, 3) := by decide +kernel
theorem dX6_ticketAt_22 : decode cX6_ticketAt 22 = .ok (.areturn, 1) := by decide +kernel
theorem dX6_valueNow_0 : decode cX6_valueNow 0 = .ok (.aload_n 1, 1) := by decide +kernel
theorem dX6_valueNow_1 : decode cX6_valueNow 1 = .ok (.getfield 328, 3) := by decide +kernel
theorem dX6_valueNow_4 : decode cX6_valueNow 4 = .ok (.bipush 10, 2) := by decide +kernel
theorem dX6_valueNow_6 : decode cX6_valueNow 6 = .ok (.aload_n 1, 1) := by decide +kernel
theorem dX6_valueNow_7 : decode cX6_valueNow 7 = .ok (.getfield 293, 3) := by decide +kernel
theorem dX6_valueNow_10 : decode cX6_valueNow 10 = .ok (.isub, 1) := by decide +kernel
theorem dX6_valueNow_11 : decode cX6_valueNow 11 = .ok (.imul, 1) := by decide +kernel
theorem dX6_valueNow_12 : decode cX6_valueNow 12 = .ok (.bipush 10, 2) := by decide +kernel
theorem dX6_valueNow_14 : decode cX6_valueNow 14 = .ok (.idiv, 1) := by decide +kernel
theorem dX6_valueNow_15 : decode cX6_valueNow 15 = .ok (.istore_n 2, 1) := by decide +kernel
theorem dX6_valueNow_16 : decode cX6_valueNow 16 = .ok (.iload_n 2, 1) := by decide +kernel
theorem dX6_valueNow_17 : decode cX6_valueNow 17 = .ok (.aload_n 0, 1) := by decide +kernel
theorem dX6_valueNow_18 : decode cX6_valueNow 18 = .ok (.getfield 19, 3) := by decide +kernel
theorem dX6_valueNow_21 : decode cX6_valueNow 21 = .ok (.aload_n 1, 1) := by decide +kernel
theorem dX6_valueNow_22 : decode cX6_valueNow 22 = .ok (.getfield 245, 3) := by decide +kernel
theorem dX6_valueNow_25 : decode cX6_valueNow 25 = .ok (.iaload, 1) := by decide +kernel
theorem dX6_valueNow_26 : decode cX6_valueNow 26 = .ok (.imul, 1) := by decide +kernel
theorem dX6_valueNow_27 : decode cX6_valueNow 27 = .ok (.bipush 100, 2) := by decide +kernel
theorem dX6_valueNow_29 : decode cX6_valueNow 29 = .ok (.idiv, 1) := by decide +kernel
theorem dX6_valueNow_30 : decode cX6_valueNow 30 = .ok (.ireturn, 1) := by decide +kernel
theorem dX6_mayLend_0 : decode cX6_mayLend 0 = .ok (.aload_n 0, 1) := by decide +kernel
theorem dX6_mayLend_1 : decode cX6_mayLend 1 = .ok (.getfield 39, 3) := by decide +kernel
theorem dX6_mayLend_4 : decode cX6_mayLend 4 = .ok (.iload_n 1, 1) := by decide +kernel
theorem dX6_mayLend_5 : decode cX6_mayLend 5 = .ok (.aaload, 1) := by decide +kernel
theorem dX6_mayLend_6 : decode cX6_mayLend 6 = .ok (.astore 4, 2) := by decide +kernel
theorem dX6_mayLend_8 : decode cX6_mayLend 8 = .ok (.iload_n 2, 1) := by decide +kernel
theorem dX6_mayLend_9 : decode cX6_mayLend 9 = .ok (.iload_n 3, 1) := by decide +kernel
theorem dX6_mayLend_10 : decode cX6_mayLend 10 = .ok (.aload 4, 2) := by decide +kernel
theorem dX6_mayLend_12 : decode cX6_mayLend 12 = .ok (.getfield 98, 3) := by decide +kernel
theorem dX6_mayLend_15 : decode cX6_mayLend 15 = .ok (.imul, 1) := by decide +kernel
theorem dX6_mayLend_16 : decode cX6_mayLend 16 = .ok (.bipush 100, 2) := by decide +kernel
theorem dX6_mayLend_18 : decode cX6_mayLend 18 = .ok (.idiv, 1) := by decide +kernel
theorem dX6_mayLend_19 : decode cX6_mayLend 19 = .ok (.if_icmp .gt 33, 3) := by decide +kernel
theorem dX6_mayLend_22 : decode cX6_mayLend 22 = .ok (.iload_n 2, 1) := by decide +kernel
theorem dX6_mayLend_23 : decode cX6_mayLend 23 = .ok (.aload_n 0, 1) := by decide +kernel
theorem dX6_mayLend_24 : decode cX6_mayLend 24 = .ok (.getfield 52, 3) := by decide +kernel
theorem dX6_mayLend_27 : decode cX6_mayLend 27 = .ok (.invokevirtual 290, 3) := by decide +kernel
theorem dX6_mayLend_30 : decode cX6_mayLend 30 = .ok (.if_icmp .gt 22, 3) := by decide +kernel
theorem dX6_mayLend_33 : decode cX6_mayLend 33 = .ok (.iload_n 2, 1) := by decide +kernel
theorem dX6_mayLend_34 : decode cX6_mayLend 34 = .ok (.aload_n 0, 1) := by decide +kernel
theorem dX6_mayLend_35 : decode cX6_mayLend 35 = .ok (.iload_n 1, 1) := by decide +kernel
theorem dX6_mayLend_36 : decode cX6_mayLend 36 = .ok (.invokevirtual 331, 3) := by decide +kernel
theorem dX6_mayLend_39 : decode cX6_mayLend 39 = .ok (.iadd, 1) := by decide +kernel
theorem dX6_mayLend_40 : decode cX6_mayLend 40 = .ok (.aload 4, 2) := by decide +kernel
theorem dX6_mayLend_42 : decode cX6_mayLend 42 = .ok (.getfield 101, 3) := by decide +kernel
theorem dX6_mayLend_45 : decode cX6_mayLend 45 = .ok (.if_icmp .gt 7, 3) := by decide +kernel
theorem dX6_mayLend_48 : decode cX6_mayLend 48 = .ok (.iconst 1, 1) := by decide +kernel
theorem dX6_mayLend_49 : decode cX6_mayLend 49 = .ok (.goto 4, 3) := by decide +kernel
theorem dX6_mayLend_52 : decode cX6_mayLend 52 = .ok (.iconst 0, 1) := by decide +kernel
theorem dX6_mayLend_53 : decode cX6_mayLend 53 = .ok (.ireturn, 1) := by decide +kernel
theorem dX6_openLoansOf_0 : decode cX6_openLoansOf 0 = .ok (.iconst 0, 1) := by decide +kernel
theorem dX6_openLoansOf_1 : decode cX6_openLoansOf 1 = .ok (.istore_n 2, 1) := by decide +kernel
theorem dX6_openLoansOf_2 : decode cX6_openLoansOf 2 = .ok (.iconst 0, 1) := by decide +kernel
theorem dX6_openLoansOf_3 : decode cX6_openLoansOf 3 = .ok (.istore_n 3, 1) := by decide +kernel
theorem dX6_openLoansOf_4 : decode cX6_openLoansOf 4 = .ok (.iload_n 3, 1) := by decide +kernel
theorem dX6_openLoansOf_5 : decode cX6_openLoansOf 5 = .ok (.aload_n 0, 1) := by decide +kernel
theorem dX6_openLoansOf_6 : decode cX6_openLoansOf 6 = .ok (.getfield 16, 3) := by decide +kernel
theorem dX6_openLoansOf_9 : decode cX6_openLoansOf 9 = .ok (.invokevirtual 71, 3) := by decide +kernel
theorem dX6_openLoansOf_12 : decode cX6_openLoansOf 12 = .ok (.if_icmp .ge 47, 3) := by decide +kernel
theorem dX6_openLoansOf_15 : decode cX6_openLoansOf 15 = .ok (.aload_n 0, 1) := by decide +kernel
theorem dX6_openLoansOf_16 : decode cX6_openLoansOf 16 = .ok (.getfield 16, 3) := by decide +kernel
theorem dX6_openLoansOf_19 : decode cX6_openLoansOf 19 = .ok (.iload_n 3, 1) := by decide +kernel
theorem dX6_openLoansOf_20 : decode cX6_openLoansOf 20 = .ok (.invokevirtual 232, 3) := by decide +kernel
theorem dX6_openLoansOf_23 : decode cX6_openLoansOf 23 = .ok (.checkcast 151, 3) := by decide +kernel
theorem dX6_openLoansOf_26 : decode cX6_openLoansOf 26 = .ok (.astore 4, 2) := by decide +kernel
theorem dX6_openLoansOf_28 : decode cX6_openLoansOf 28 = .ok (.aload 4, 2) := by decide +kernel
theorem dX6_openLoansOf_30 : decode cX6_openLoansOf 30 = .ok (.getfield 174, 3) := by decide +kernel
theorem dX6_openLoansOf_33 : decode cX6_openLoansOf 33 = .ok (.ifCond .ne 20, 3) := by decide +kernel
theorem dX6_openLoansOf_36 : decode cX6_openLoansOf 36 = .ok (.aload 4, 2) := by decide +kernel
theorem dX6_openLoansOf_38 : decode cX6_openLoansOf 38 = .ok (.getfield 334, 3) := by decide +kernel
theorem dX6_openLoansOf_41 : decode cX6_openLoansOf 41 = .ok (.iload_n 1, 1) := by decide +kernel
theorem dX6_openLoansOf_42 : decode cX6_openLoansOf 42 = .ok (.if_icmp .ne 11, 3) := by decide +kernel
theorem dX6_openLoansOf_45 : decode cX6_openLoansOf 45 = .ok (.iload_n 2, 1) := by decide +kernel
theorem dX6_openLoansOf_46 : decode cX6_openLoansOf 46 = .ok (.aload 4, 2) := by decide +kernel
theorem dX6_openLoansOf_48 : decode cX6_openLoansOf 48 = .ok (.getfield 190, 3) := by decide +kernel
theorem dX6_openLoansOf_51 : decode cX6_openLoansOf 51 = .ok (.iadd, 1) := by decide +kernel
theorem dX6_openLoansOf_52 : decode cX6_openLoansOf 52 = .ok (.istore_n 2, 1) := by decide +kernel
theorem dX6_openLoansOf_53 : decode cX6_openLoansOf 53 = .ok (.iinc 3 1, 3) := by decide +kernel
theorem dX6_openLoansOf_56 : decode cX6_openLoansOf 56 = .ok (.goto (-52), 3) := by decide +kernel
theorem dX6_openLoansOf_59 : decode cX6_openLoansOf 59 = .ok (.iload_n 2, 1) := by decide +kernel
theorem dX6_openLoansOf_60 : decode cX6_openLoansOf 60 = .ok (.ireturn, 1) := by decide +kernel
theorem dX6_interestNow_0 : decode cX6_interestNow 0 = .ok (.aload_n 1, 1) := by decide +kernel
theorem dX6_interestNow_1 : decode cX6_interestNow 1 = .ok (.getfield 174, 3) := by decide +kernel
theorem dX6_interestNow_4 : decode cX6_interestNow 4 = .ok (.ifCond .ne 25, 3) := by decide +kernel
theorem dX6_interestNow_7 : decode cX6_interestNow 7 = .ok (.aload_n 0, 1) := by decide +kernel
theorem dX6_interestNow_8 : decode cX6_interestNow 8 = .ok (.getfield 45, 3) := by decide +kernel
theorem dX6_interestNow_11 : decode cX6_interestNow 11 = .ok (.aload_n 1, 1) := by decide +kernel
theorem dX6_interestNow_12 : decode cX6_interestNow 12 = .ok (.getfield 190, 3) := by decide +kernel
theorem dX6_interestNow_15 : decode cX6_interestNow 15 = .ok (.aload_n 1, 1) := by decide +kernel
theorem dX6_interestNow_16 : decode cX6_interestNow 16 = .ok (.getfield 296, 3) := by decide +kernel
theorem dX6_interestNow_19 : decode cX6_interestNow 19 = .ok (.aload_n 0, 1) := by decide +kernel
theorem dX6_interestNow_20 : decode cX6_interestNow 20 = .ok (.getfield 60, 3) := by decide +kernel
theorem dX6_interestNow_23 : decode cX6_interestNow 23 = .ok (.invokevirtual 337, 3) := by decide +kernel
theorem dX6_interestNow_26 : decode cX6_interestNow 26 = .ok (.goto 4, 3) := by decide +kernel
theorem dX6_interestNow_29 : decode cX6_interestNow 29 = .ok (.iconst 0, 1) := by decide +kernel
theorem dX6_interestNow_30 : decode cX6_interestNow 30 = .ok (.ireturn, 1) := by decide +kernel
theorem dX6_mayBeOffered_0 : decode cX6_mayBeOffered 0 = .ok (.aload_n 1, 1) := by decide +kernel
theorem dX6_mayBeOffered_1 : decode cX6_mayBeOffered 1 = .ok (.getfield 174, 3) := by decide +kernel
theorem dX6_mayBeOffered_4 : decode cX6_mayBeOffered 4 = .ok (.ifCond .ne 35, 3) := by decide +kernel
theorem dX6_mayBeOffered_7 : decode cX6_mayBeOffered 7 = .ok (.aload_n 0, 1) := by decide +kernel
theorem dX6_mayBeOffered_8 : decode cX6_mayBeOffered 8 = .ok (.getfield 60, 3) := by decide +kernel
theorem dX6_mayBeOffered_11 : decode cX6_mayBeOffered 11 = .ok (.aload_n 1, 1) := by decide +kernel
theorem dX6_mayBeOffered_12 : decode cX6_mayBeOffered 12 = .ok (.invokevirtual 299, 3) := by decide +kernel
theorem dX6_mayBeOffered_15 : decode cX6_mayBeOffered 15 = .ok (.if_icmp .le 24, 3) := by decide +kernel
theorem dX6_mayBeOffered_18 : decode cX6_mayBeOffered 18 = .ok (.aload_n 1, 1) := by decide +kernel
theorem dX6_mayBeOffered_19 : decode cX6_mayBeOffered 19 = .ok (.invokevirtual 177, 3) := by decide +kernel
theorem dX6_mayBeOffered_22 : decode cX6_mayBeOffered 22 = .ok (.ifCond .ne 17, 3) := by decide +kernel
theorem dX6_mayBeOffered_25 : decode cX6_mayBeOffered 25 = .ok (.aload_n 1, 1) := by decide +kernel
theorem dX6_mayBeOffered_26 : decode cX6_mayBeOffered 26 = .ok (.getfield 183, 3) := by decide +kernel
theorem dX6_mayBeOffered_29 : decode cX6_mayBeOffered 29 = .ok (.invokevirtual 187, 3) := by decide +kernel
theorem dX6_mayBeOffered_32 : decode cX6_mayBeOffered 32 = .ok (.ifCond .eq 7, 3) := by decide +kernel
theorem dX6_mayBeOffered_35 : decode cX6_mayBeOffered 35 = .ok (.iconst 1, 1) := by decide +kernel
theorem dX6_mayBeOffered_36 : decode cX6_mayBeOffered 36 = .ok (.goto 4, 3) := by decide +kernel
theorem dX6_mayBeOffered_39 : decode cX6_mayBeOffered 39 = .ok (.iconst 0, 1) := by decide +kernel
theorem dX6_mayBeOffered_40 : decode cX6_mayBeOffered 40 = .ok (.ireturn, 1) := by decide +kernel
theorem dX6_reserveOf_0 : decode cX6_reserveOf 0 = .ok (.aload_n 0, 1) := by decide +kernel
theorem dX6_reserveOf_1 : decode cX6_reserveOf 1 = .ok (.getfield 262, 3) := by decide +kernel
theorem dX6_reserveOf_4 : decode cX6_reserveOf 4 = .ok (.ifCond .ne 10, 3) := by decide +kernel
theorem dX6_reserveOf_7 : decode cX6_reserveOf 7 = .ok (.aload_n 0, 1) := by decide +kernel
theorem dX6_reserveOf_8 : decode cX6_reserveOf 8 = .ok (.getfield 190, 3) := by decide +kernel
theorem dX6_reserveOf_11 : decode cX6_reserveOf 11 = .ok (.iload_n 1, 1) := by decide +kernel
theorem dX6_reserveOf_12 : decode cX6_reserveOf 12 = .ok (.iadd, 1) := by decide +kernel
theorem dX6_reserveOf_13 : decode cX6_reserveOf 13 = .ok (.ireturn, 1) := by decide +kernel
theorem dX6_reserveOf_14 : decode cX6_reserveOf 14 = .ok (.aload_n 0, 1) := by decide +kernel
theorem dX6_reserveOf_15 : decode cX6_reserveOf 15 = .ok (.getfield 262, 3) := by decide +kernel
theorem dX6_reserveOf_18 : decode cX6_reserveOf 18 = .ok (.iconst 1, 1) := by decide +kernel
theorem dX6_reserveOf_19 : decode cX6_reserveOf 19 = .ok (.if_icmp .ne 10, 3) := by decide +kernel
theorem dX6_reserveOf_22 : decode cX6_reserveOf 22 = .ok (.aload_n 0, 1) := by decide +kernel
theorem dX6_reserveOf_23 : decode cX6_reserveOf 23 = .ok (.getfield 190, 3) := by decide +kernel
theorem dX6_reserveOf_26 : decode cX6_reserveOf 26 = .ok (.goto 4, 3) := by decide +kernel
theorem dX6_reserveOf_29 : decode cX6_reserveOf 29 = .ok (.iconst 0, 1) := by decide +kernel
theorem dX6_reserveOf_30 : decode cX6_reserveOf 30 = .ok (.ireturn, 1) := by decide +kernel
theorem dX6_releaseSurplus_0 : decode cX6_releaseSurplus 0 = .ok (.aload_n 1, 1) := by decide +kernel
theorem dX6_releaseSurplus_1 : decode cX6_releaseSurplus 1 = .ok (.getfield 274, 3) := by decide +kernel
theorem dX6_releaseSurplus_4 : decode cX6_releaseSurplus 4 = .ok (.istore_n 2, 1) := by decide +kernel
theorem dX6_releaseSurplus_5 : decode cX6_releaseSurplus 5 = .ok (.aload_n 1, 1) := by decide +kernel
theorem dX6_releaseSurplus_6 : decode cX6_releaseSurplus 6 = .ok (.iconst 0, 1) := by decide +kernel
theorem dX6_releaseSurplus_7 : decode cX6_releaseSurplus 7 = .ok (.putfield 274, 3) := by decide +kernel
theorem dX6_releaseSurplus_10 : decode cX6_releaseSurplus 10 = .ok (.aload_n 0, 1) := by decide +kernel
theorem dX6_releaseSurplus_11 : decode cX6_releaseSurplus 11 = .ok (.getfield 52, 3) := by decide +kernel
theorem dX6_releaseSurplus_14 : decode cX6_releaseSurplus 14 = .ok (.dup, 1) := by decide +kernel
theorem dX6_releaseSurplus_15 : decode cX6_releaseSurplus 15 = .ok (.getfield 280, 3) := by decide +kernel
theorem dX6_releaseSurplus_18 : decode cX6_releaseSurplus 18 = .ok (.iload_n 2, 1) := by decide +kernel
theorem dX6_releaseSurplus_19 : decode cX6_releaseSurplus 19 = .ok (.isub, 1) := by decide +kernel
theorem dX6_releaseSurplus_20 : decode cX6_releaseSurplus 20 = .ok (.putfield 280, 3) := by decide +kernel
theorem dX6_releaseSurplus_23 : decode cX6_releaseSurplus 23 = .ok (.aload_n 0, 1) := by decide +kernel
theorem dX6_releaseSurplus_24 : decode cX6_releaseSurplus 24 = .ok (.getfield 52, 3) := by decide +kernel
theorem dX6_releaseSurplus_27 : decode cX6_releaseSurplus 27 = .ok (.iload_n 2, 1) := by decide +kernel
theorem dX6_releaseSurplus_28 : decode cX6_releaseSurplus 28 = .ok (.ineg, 1) := by decide +kernel
theorem dX6_releaseSurplus_29 : decode cX6_releaseSurplus 29 = .ok (.invokevirtual 166, 3) := by decide +kernel
theorem dX6_releaseSurplus_32 : decode cX6_releaseSurplus 32 = .ok (.iload_n 2, 1) := by decide +kernel
theorem dX6_releaseSurplus_33 : decode cX6_releaseSurplus 33 = .ok (.ireturn, 1) := by decide +kernel
theorem dX6_placeOf_0 : decode cX6_placeOf 0 = .ok (.iconst 4, 1) := by decide +kernel
theorem dX6_placeOf_1 : decode cX6_placeOf 1 = .ok (.iload_n 0, 1) := by decide +kernel
theorem dX6_placeOf_2 : decode cX6_placeOf 2 = .ok (.imul, 1) := by decide +kernel
theorem dX6_placeOf_3 : decode cX6_placeOf 3 = .ok (.iload_n 1, 1) := by decide +kernel
theorem dX6_placeOf_4 : decode cX6_placeOf 4 = .ok (.iadd, 1) := by decide +kernel
theorem dX6_placeOf_5 : decode cX6_placeOf 5 = .ok (.ireturn, 1) := by decide +kernel
theorem dX6_branchOf_0 : decode cX6_branchOf 0 = .ok (.iload_n 0, 1) := by decide +kernel
theorem dX6_branchOf_1 : decode cX6_branchOf 1 = .ok (.iconst 4, 1) := by decide +kernel
theorem dX6_branchOf_2 : decode cX6_branchOf 2 = .ok (.idiv, 1) := by decide +kernel
theorem dX6_branchOf_3 : decode cX6_branchOf 3 = .ok (.ireturn, 1) := by decide +kernel
theorem dX6_roomAt_0 : decode cX6_roomAt 0 = .ok (.bipush 60, 2) := by decide +kernel
theorem dX6_roomAt_2 : decode cX6_roomAt 2 = .ok (.istore_n 3, 1) := by decide +kernel
theorem dX6_roomAt_3 : decode cX6_roomAt 3 = .ok (.iconst 0, 1) := by decide +kernel
theorem dX6_roomAt_4 : decode cX6_roomAt 4 = .ok (.istore 4, 2) := by decide +kernel
theorem dX6_roomAt_6 : decode cX6_roomAt 6 = .ok (.iload 4, 2) := by decide +kernel
theorem dX6_roomAt_8 : decode cX6_roomAt 8 = .ok (.aload_n 0, 1) := by decide +kernel
theorem dX6_roomAt_9 : decode cX6_roomAt 9 = .ok (.getfield 10, 3) := by decide +kernel
theorem dX6_roomAt_12 : decode cX6_roomAt 12 = .ok (.invokevirtual 71, 3) := by decide +kernel
theorem dX6_roomAt_15 : decode cX6_roomAt 15 = .ok (.if_icmp .ge 54, 3) := by decide +kernel
theorem dX6_roomAt_18 : decode cX6_roomAt 18 = .ok (.aload_n 0, 1) := by decide +kernel
theorem dX6_roomAt_19 : decode cX6_roomAt 19 = .ok (.getfield 10, 3) := by decide +kernel
theorem dX6_roomAt_22 : decode cX6_roomAt 22 = .ok (.iload 4, 2) := by decide +kernel
theorem dX6_roomAt_24 : decode cX6_roomAt 24 = .ok (.invokevirtual 232, 3) := by decide +kernel
theorem dX6_roomAt_27 : decode cX6_roomAt 27 = .ok (.checkcast 79, 3) := by decide +kernel
theorem dX6_roomAt_30 : decode cX6_roomAt 30 = .ok (.astore 5, 2) := by decide +kernel
theorem dX6_roomAt_32 : decode cX6_roomAt 32 = .ok (.aload 5, 2) := by decide +kernel
theorem dX6_roomAt_34 : decode cX6_roomAt 34 = .ok (.aload_n 2, 1) := by decide +kernel
theorem dX6_roomAt_35 : decode cX6_roomAt 35 = .ok (.if_acmp .eq 28, 3) := by decide +kernel
theorem dX6_roomAt_38 : decode cX6_roomAt 38 = .ok (.aload 5, 2) := by decide +kernel
theorem dX6_roomAt_40 : decode cX6_roomAt 40 = .ok (.getfield 128, 3) := by decide +kernel
theorem dX6_roomAt_43 : decode cX6_roomAt 43 = .ok (.ifCond .eq 20, 3) := by decide +kernel
theorem dX6_roomAt_46 : decode cX6_roomAt 46 = .ok (.aload 5, 2) := by decide +kernel
theorem dX6_roomAt_48 : decode cX6_roomAt 48 = .ok (.getfield 236, 3) := by decide +kernel
theorem dX6_roomAt_51 : decode cX6_roomAt 51 = .ok (.iload_n 1, 1) := by decide +kernel
theorem dX6_roomAt_52 : decode cX6_roomAt 52 = .ok (.if_icmp .ne 11, 3) := by decide +kernel
theorem dX6_roomAt_55 : decode cX6_roomAt 55 = .ok (.iload_n 3, 1) := by decide +kernel
theorem dX6_roomAt_56 : decode cX6_roomAt 56 = .ok (.aload 5, 2) := by decide +kernel
theorem dX6_roomAt_58 : decode cX6_roomAt 58 = .ok (.getfield 340, 3) := by decide +kernel
theorem dX6_roomAt_61 : decode cX6_roomAt 61 = .ok (.isub, 1) := by decide +kernel
theorem dX6_roomAt_62 : decode cX6_roomAt 62 = .ok (.istore_n 3, 1) := by decide +kernel
theorem dX6_roomAt_63 : decode cX6_roomAt 63 = .ok (.iinc 4 1, 3) := by decide +kernel
theorem dX6_roomAt_66 : decode cX6_roomAt 66 = .ok (.goto (-60), 3) := by decide +kernel
theorem dX6_roomAt_69 : decode cX6_roomAt 69 = .ok (.iload_n 3, 1) := by decide +kernel
theorem dX6_roomAt_70 : decode cX6_roomAt 70 = .ok (.ireturn, 1) := by decide +kernel
theorem dX6_shelfFor_0 : decode cX6_shelfFor 0 = .ok (.aload_n 1, 1) := by decide +kernel
theorem dX6_shelfFor_1 : decode cX6_shelfFor 1 = .ok (.getfield 245, 3) := by decide +kernel
theorem dX6_shelfFor_4 : decode cX6_shelfFor 4 = .ok (.iconst 1, 1) := by decide +kernel
theorem dX6_shelfFor_5 : decode cX6_shelfFor 5 = .ok (.if_icmp .ne 7, 3) := by decide +kernel
theorem dX6_shelfFor_8 : decode cX6_shelfFor 8 = .ok (.iconst 0, 1) := by decide +kernel
theorem dX6_shelfFor_9 : decode cX6_shelfFor 9 = .ok (.goto 4, 3) := by decide +kernel
theorem dX6_shelfFor_12 : decode cX6_shelfFor 12 = .ok (.iconst 1, 1) := by decide +kernel
theorem dX6_shelfFor_13 : decode cX6_shelfFor 13 = .ok (.istore_n 3, 1) := by decide +kernel
theorem dX6_shelfFor_14 : decode cX6_shelfFor 14 = .ok (.iconst 0, 1) := by decide +kernel
theorem dX6_shelfFor_15 : decode cX6_shelfFor 15 = .ok (.istore 4, 2) := by decide +kernel
theorem dX6_shelfFor_17 : decode cX6_shelfFor 17 = .ok (.iload 4, 2) := by decide +kernel
theorem dX6_shelfFor_19 : decode cX6_shelfFor 19 = .ok (.iconst 4, 1) := by decide +kernel
theorem dX6_shelfFor_20 : decode cX6_shelfFor 20 = .ok (.if_icmp .ge 38, 3) := by decide +kernel
theorem dX6_shelfFor_23 : decode cX6_shelfFor 23 = .ok (.iload_n 3, 1) := by decide +kernel
theorem dX6_shelfFor_24 : decode cX6_shelfFor 24 = .ok (.iload 4, 2) := by decide +kernel
theorem dX6_shelfFor_26 : decode cX6_shelfFor 26 = .ok (.iadd, 1) := by decide +kernel
theorem dX6_shelfFor_27 : decode cX6_shelfFor 27 = .ok (.iconst 4, 1) := by decide +kernel
theorem dX6_shelfFor_28 : decode cX6_shelfFor 28 = .ok (.irem, 1) := by decide +kernel
theorem dX6_shelfFor_29 : decode cX6_shelfFor 29 = .ok (.istore 5, 2) := by decide +kernel
theorem dX6_shelfFor_31 : decode cX6_shelfFor 31 = .ok (.aload_n 0, 1) := by decide +kernel
theorem dX6_shelfFor_32 : decode cX6_shelfFor 32 = .ok (.iload_n 2, 1) := by decide +kernel
theorem dX6_shelfFor_33 : decode cX6_shelfFor 33 = .ok (.iload 5, 2) := by decide +kernel
theorem dX6_shelfFor_35 : decode cX6_shelfFor 35 = .ok (.invokestatic 159, 3) := by decide +kernel
theorem dX6_shelfFor_38 : decode cX6_shelfFor 38 = .ok (.aload_n 1, 1) := by decide +kernel
theorem dX6_shelfFor_39 : decode cX6_shelfFor 39 = .ok (.invokevirtual 309, 3) := by decide +kernel
theorem dX6_shelfFor_42 : decode cX6_shelfFor 42 = .ok (.aload_n 1, 1) := by decide +kernel
theorem dX6_shelfFor_43 : decode cX6_shelfFor 43 = .ok (.getfield 340, 3) := by decide +kernel
theorem dX6_shelfFor_46 : decode cX6_shelfFor 46 = .ok (.if_icmp .lt 6, 3) := by decide +kernel
theorem dX6_shelfFor_49 : decode cX6_shelfFor 49 = .ok (.iload 5, 2) := by decide +kernel
theorem dX6_shelfFor_51 : decode cX6_shelfFor 51 = .ok (.ireturn, 1) := by decide +kernel
theorem dX6_shelfFor_52 : decode cX6_shelfFor 52 = .ok (.iinc 4 1, 3) := by decide +kernel
theorem dX6_shelfFor_55 : decode cX6_shelfFor 55 = .ok (.goto (-38), 3) := by decide +kernel
theorem dX6_shelfFor_58 : decode cX6_shelfFor 58 = .ok (.iconst (-1), 1) := by decide +kernel
theorem dX6_shelfFor_59 : decode cX6_shelfFor 59 = .ok (.ireturn, 1) := by decide +kernel
theorem dX6_passOneDay_0 : decode cX6_passOneDay 0 = .ok (.aload_n 0, 1) := by decide +kernel
theorem dX6_passOneDay_1 : decode cX6_passOneDay 1 = .ok (.dup, 1) := by decide +kernel
theorem dX6_passOneDay_2 : decode cX6_passOneDay 2 = .ok (.getfield 60, 3) := by decide +kernel
theorem dX6_passOneDay_5 : decode cX6_passOneDay 5 = .ok (.iconst 1, 1) := by decide +kernel
theorem dX6_passOneDay_6 : decode cX6_passOneDay 6 = .ok (.iadd, 1) := by decide +kernel
theorem dX6_passOneDay_7 : decode cX6_passOneDay 7 = .ok (.putfield 60, 3) := by decide +kernel
theorem dX6_passOneDay_10 : decode cX6_passOneDay 10 = .ok (.iconst 0, 1) := by decide +kernel
theorem dX6_passOneDay_11 : decode cX6_passOneDay 11 = .ok (.istore_n 1, 1) := by decide +kernel
theorem dX6_passOneDay_12 : decode cX6_passOneDay 12 = .ok (.iload_n 1, 1) := by decide +kernel
theorem dX6_passOneDay_13 : decode cX6_passOneDay 13 = .ok (.aload_n 0, 1) := by decide +kernel
theorem dX6_passOneDay_14 : decode cX6_passOneDay 14 = .ok (.getfield 10, 3) := by decide +kernel
theorem dX6_passOneDay_17 : decode cX6_passOneDay 17 = .ok (.invokevirtual 71, 3) := by decide +kernel
theorem dX6_passOneDay_20 : decode cX6_passOneDay 20 = .ok (.if_icmp .ge 27, 3) := by decide +kernel
theorem dX6_passOneDay_23 : decode cX6_passOneDay 23 = .ok (.aload_n 0, 1) := by decide +kernel
theorem dX6_passOneDay_24 : decode cX6_passOneDay 24 = .ok (.getfield 10, 3) := by decide +kernel
theorem dX6_passOneDay_27 : decode cX6_passOneDay 27 = .ok (.iload_n 1, 1) := by decide +kernel
theorem dX6_passOneDay_28 : decode cX6_passOneDay 28 = .ok (.invokevirtual 232, 3) := by decide +kernel
theorem dX6_passOneDay_31 : decode cX6_passOneDay 31 = .ok (.checkcast 79, 3) := by decide +kernel
theorem dX6_passOneDay_34 : decode cX6_passOneDay 34 = .ok (.aload_n 0, 1) := by decide +kernel
theorem dX6_passOneDay_35 : decode cX6_passOneDay 35 = .ok (.getfield 60, 3) := by decide +kernel
theorem dX6_passOneDay_38 : decode cX6_passOneDay 38 = .ok (.invokevirtual 343, 3) := by decide +kernel
theorem dX6_passOneDay_41 : decode cX6_passOneDay 41 = .ok (.iinc 1 1, 3) := by decide +kernel
theorem dX6_passOneDay_44 : decode cX6_passOneDay 44 = .ok (.goto (-32), 3) := by decide +kernel
theorem dX6_passOneDay_47 : decode cX6_passOneDay 47 = .ok (.iconst 0, 1) := by decide +kernel
theorem dX6_passOneDay_48 : decode cX6_passOneDay 48 = .ok (.istore_n 1, 1) := by decide +kernel
theorem dX6_passOneDay_49 : decode cX6_passOneDay 49 = .ok (.iload_n 1, 1) := by decide +kernel
theorem dX6_passOneDay_50 : decode cX6_passOneDay 50 = .ok (.aload_n 0, 1) := by decide +kernel
theorem dX6_passOneDay_51 : decode cX6_passOneDay 51 = .ok (.getfield 16, 3) := by decide +kernel
theorem dX6_passOneDay_54 : decode cX6_passOneDay 54 = .ok (.invokevirtual 71, 3) := by decide +kernel
theorem dX6_passOneDay_57 : decode cX6_passOneDay 57 = .ok (.if_icmp .ge 27, 3) := by decide +kernel
theorem dX6_passOneDay_60 : decode cX6_passOneDay 60 = .ok (.aload_n 0, 1) := by decide +kernel
theorem dX6_passOneDay_61 : decode cX6_passOneDay 61 = .ok (.getfield 16, 3) := by decide +kernel
theorem dX6_passOneDay_64 : decode cX6_passOneDay 64 = .ok (.iload_n 1, 1) := by decide +kernel
theorem dX6_passOneDay_65 : decode cX6_passOneDay 65 = .ok (.invokevirtual 232, 3) := by decide +kernel
theorem dX6_passOneDay_68 : decode cX6_passOneDay 68 = .ok (.checkcast 151, 3) := by decide +kernel
theorem dX6_passOneDay_71 : decode cX6_passOneDay 71 = .ok (.aload_n 0, 1) := by decide +kernel
theorem dX6_passOneDay_72 : decode cX6_passOneDay 72 = .ok (.getfield 60, 3) := by decide +kernel
theorem dX6_passOneDay_75 : decode cX6_passOneDay 75 = .ok (.invokevirtual 346, 3) := by decide +kernel
theorem dX6_passOneDay_78 : decode cX6_passOneDay 78 = .ok (.iinc 1 1, 3) := by decide +kernel
theorem dX6_passOneDay_81 : decode cX6_passOneDay 81 = .ok (.goto (-32), 3) := by decide +kernel
theorem dX6_passOneDay_84 : decode cX6_passOneDay 84 = .ok (.iconst 0, 1) := by decide +kernel
theorem dX6_passOneDay_85 : decode cX6_passOneDay 85 = .ok (.istore_n 1, 1) := by decide +kernel
theorem dX6_passOneDay_86 : decode cX6_passOneDay 86 = .ok (.iload_n 1, 1) := by decide +kernel
theorem dX6_passOneDay_87 : decode cX6_passOneDay 87 = .ok (.aload_n 0, 1) := by decide +kernel
theorem dX6_passOneDay_88 : decode cX6_passOneDay 88 = .ok (.getfield 16, 3) := by decide +kernel
theorem dX6_passOneDay_91 : decode cX6_passOneDay 91 = .ok (.invokevirtual 71, 3) := by decide +kernel
theorem dX6_passOneDay_94 : decode cX6_passOneDay 94 = .ok (.if_icmp .ge 49, 3) := by decide +kernel
theorem dX6_passOneDay_97 : decode cX6_passOneDay 97 = .ok (.aload_n 0, 1) := by decide +kernel
theorem dX6_passOneDay_98 : decode cX6_passOneDay 98 = .ok (.getfield 16, 3) := by decide +kernel
theorem dX6_passOneDay_101 : decode cX6_passOneDay 101 = .ok (.iload_n 1, 1) := by decide +kernel
theorem dX6_passOneDay_102 : decode cX6_passOneDay 102 = .ok (.invokevirtual 232, 3) := by decide +kernel
theorem dX6_passOneDay_105 : decode cX6_passOneDay 105 = .ok (.checkcast 151, 3) := by decide +kernel
theorem dX6_passOneDay_108 : decode cX6_passOneDay 108 = .ok (.astore_n 2, 1) := by decide +kernel
theorem dX6_passOneDay_109 : decode cX6_passOneDay 109 = .ok (.aload_n 2, 1) := by decide +kernel
theorem dX6_passOneDay_110 : decode cX6_passOneDay 110 = .ok (.aload_n 0, 1) := by decide +kernel
theorem dX6_passOneDay_111 : decode cX6_passOneDay 111 = .ok (.getfield 60, 3) := by decide +kernel
theorem dX6_passOneDay_114 : decode cX6_passOneDay 114 = .ok (.invokevirtual 349, 3) := by decide +kernel
theorem dX6_passOneDay_117 : decode cX6_passOneDay 117 = .ok (.ifCond .eq 20, 3) := by decide +kernel
theorem dX6_passOneDay_120 : decode cX6_passOneDay 120 = .ok (.aload_n 0, 1) := by decide +kernel
theorem dX6_passOneDay_121 : decode cX6_passOneDay 121 = .ok (.getfield 52, 3) := by decide +kernel
theorem dX6_passOneDay_124 : decode cX6_passOneDay 124 = .ok (.dup, 1) := by decide +kernel
theorem dX6_passOneDay_125 : decode cX6_passOneDay 125 = .ok (.getfield 313, 3) := by decide +kernel
theorem dX6_passOneDay_128 : decode cX6_passOneDay 128 = .ok (.aload_n 0, 1) := by decide +kernel
theorem dX6_passOneDay_129 : decode cX6_passOneDay 129 = .ok (.aload_n 2, 1) := by decide +kernel
theorem dX6_passOneDay_130 : decode cX6_passOneDay 130 = .ok (.invokevirtual 283, 3) := by decide +kernel
theorem dX6_passOneDay_133 : decode cX6_passOneDay 133 = .ok (.iadd, 1) := by decide +kernel
theorem dX6_passOneDay_134 : decode cX6_passOneDay 134 = .ok (.putfield 313, 3) := by decide +kernel
theorem dX6_passOneDay_137 : decode cX6_passOneDay 137 = .ok (.iinc 1 1, 3) := by decide +kernel
theorem dX6_passOneDay_140 : decode cX6_passOneDay 140 = .ok (.goto (-54), 3) := by decide +kernel
theorem dX6_passOneDay_143 : decode cX6_passOneDay 143 = .ok (.return_, 1) := by decide +kernel
