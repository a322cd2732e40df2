/-! the instructions -/
theorem d_H_readPart_3 : decode b_H_readPart 3 = .ok (.iload_n 3, 1) := by decide +kernel
theorem d_H_readPart_4 : decode b_H_readPart 4 = .ok (.if_icmp .gt 13, 3) := by decide +kernel
theorem d_H_readPart_7 : decode b_H_readPart 7 = .ok (.aload_n 0, 1) := by decide +kernel
theorem d_H_readPart_8 : decode b_H_readPart 8 = .ok (.getfield 9, 3) := by decide +kernel
theorem d_H_readPart_11 : decode b_H_readPart 11 = .ok (.iload_n 2, 1) := by decide +kernel
theorem d_H_readPart_12 : decode b_H_readPart 12 = .ok (.iaload, 1) := by decide +kernel
theorem d_H_readPart_13 : decode b_H_readPart 13 = .ok (.iconst 2, 1) := by decide +kernel
theorem d_H_readPart_14 : decode b_H_readPart 14 = .ok (.if_icmp .eq 5, 3) := by decide +kernel
theorem d_H_readPart_17 : decode b_H_readPart 17 = .ok (.iconst (-1), 1) := by decide +kernel
theorem d_H_readPart_18 : decode b_H_readPart 18 = .ok (.ireturn, 1) := by decide +kernel
theorem d_H_readPart_19 : decode b_H_readPart 19 = .ok (.iload_n 2, 1) := by decide +kernel
theorem d_H_readPart_20 : decode b_H_readPart 20 = .ok (.iconst 2, 1) := by decide +kernel
theorem d_H_readPart_21 : decode b_H_readPart 21 = .ok (.iadd, 1) := by decide +kernel
theorem d_H_readPart_22 : decode b_H_readPart 22 = .ok (.istore 4, 2) := by decide +kernel
theorem d_H_readPart_24 : decode b_H_readPart 24 = .ok (.aload_n 0, 1) := by decide +kernel
theorem d_H_readPart_25 : decode b_H_readPart 25 = .ok (.getfield 9, 3) := by decide +kernel
theorem d_H_readPart_28 : decode b_H_readPart 28 = .ok (.iload_n 2, 1) := by decide +kernel
theorem d_H_readPart_29 : decode b_H_readPart 29 = .ok (.iconst 1, 1) := by decide +kernel
theorem d_H_readPart_30 : decode b_H_readPart 30 = .ok (.iadd, 1) := by decide +kernel
theorem d_H_readPart_31 : decode b_H_readPart 31 = .ok (.iaload, 1) := by decide +kernel
theorem d_H_readPart_32 : decode b_H_readPart 32 = .ok (.istore 5, 2) := by decide +kernel
theorem d_H_readPart_34 : decode b_H_readPart 34 = .ok (.iload 5, 2) := by decide +kernel
theorem d_H_readPart_36 : decode b_H_readPart 36 = .ok (.iconst 1, 1) := by decide +kernel
theorem d_H_readPart_37 : decode b_H_readPart 37 = .ok (.if_icmp .lt 19, 3) := by decide +kernel
theorem d_H_readPart_40 : decode b_H_readPart 40 = .ok (.iload 5, 2) := by decide +kernel
theorem d_H_readPart_42 : decode b_H_readPart 42 = .ok (.bipush 33, 2) := by decide +kernel
theorem d_H_readPart_44 : decode b_H_readPart 44 = .ok (.if_icmp .gt 12, 3) := by decide +kernel
theorem d_H_readPart_47 : decode b_H_readPart 47 = .ok (.iload 4, 2) := by decide +kernel
theorem d_H_readPart_49 : decode b_H_readPart 49 = .ok (.iload 5, 2) := by decide +kernel
theorem d_H_readPart_51 : decode b_H_readPart 51 = .ok (.iadd, 1) := by decide +kernel
theorem d_H_readPart_52 : decode b_H_readPart 52 = .ok (.iload_n 3, 1) := by decide +kernel
theorem d_H_readPart_53 : decode b_H_readPart 53 = .ok (.if_icmp .le 5, 3) := by decide +kernel
theorem d_H_readPart_56 : decode b_H_readPart 56 = .ok (.iconst (-1), 1) := by decide +kernel
theorem d_H_readPart_57 : decode b_H_readPart 57 = .ok (.ireturn, 1) := by decide +kernel
theorem d_H_readPart_58 : decode b_H_readPart 58 = .ok (.aload_n 0, 1) := by decide +kernel
theorem d_H_readPart_59 : decode b_H_readPart 59 = .ok (.iload 4, 2) := by decide +kernel
theorem d_H_readPart_61 : decode b_H_readPart 61 = .ok (.iload 5, 2) := by decide +kernel
theorem d_H_readPart_63 : decode b_H_readPart 63 = .ok (.invokevirtual 33, 3) := by decide +kernel
theorem d_H_readPart_66 : decode b_H_readPart 66 = .ok (.ifCond .ne 5, 3) := by decide +kernel
theorem d_H_readPart_69 : decode b_H_readPart 69 = .ok (.iconst (-1), 1) := by decide +kernel
theorem d_H_readPart_70 : decode b_H_readPart 70 = .ok (.ireturn, 1) := by decide +kernel
theorem d_H_readPart_71 : decode b_H_readPart 71 = .ok (.aload_n 0, 1) := by decide +kernel
theorem d_H_readPart_72 : decode b_H_readPart 72 = .ok (.aload_n 1, 1) := by decide +kernel
theorem d_H_readPart_73 : decode b_H_readPart 73 = .ok (.iload 4, 2) := by decide +kernel
theorem d_H_readPart_75 : decode b_H_readPart 75 = .ok (.iload 5, 2) := by decide +kernel
theorem d_H_readPart_77 : decode b_H_readPart 77 = .ok (.invokevirtual 37, 3) := by decide +kernel
theorem d_H_readPart_80 : decode b_H_readPart 80 = .ok (.iload 4, 2) := by decide +kernel
theorem d_H_readPart_82 : decode b_H_readPart 82 = .ok (.iload 5, 2) := by decide +kernel
theorem d_H_readPart_84 : decode b_H_readPart 84 = .ok (.iadd, 1) := by decide +kernel
theorem d_H_readPart_85 : decode b_H_readPart 85 = .ok (.ireturn, 1) := by decide +kernel
theorem d_H_isWellWritten_0 : decode b_H_isWellWritten 0 = .ok (.aload_n 0, 1) := by decide +kernel
theorem d_H_isWellWritten_1 : decode b_H_isWellWritten 1 = .ok (.getfield 9, 3) := by decide +kernel
theorem d_H_isWellWritten_4 : decode b_H_isWellWritten 4 = .ok (.iload_n 1, 1) := by decide +kernel
theorem d_H_isWellWritten_5 : decode b_H_isWellWritten 5 = .ok (.iaload, 1) := by decide +kernel
theorem d_H_isWellWritten_6 : decode b_H_isWellWritten 6 = .ok (.istore_n 3, 1) := by decide +kernel
theorem d_H_isWellWritten_7 : decode b_H_isWellWritten 7 = .ok (.iload_n 3, 1) := by decide +kernel
theorem d_H_isWellWritten_8 : decode b_H_isWellWritten 8 = .ok (.ifCond .ne 28, 3) := by decide +kernel
theorem d_H_isWellWritten_11 : decode b_H_isWellWritten 11 = .ok (.iload_n 2, 1) := by decide +kernel
theorem d_H_isWellWritten_12 : decode b_H_isWellWritten 12 = .ok (.iconst 1, 1) := by decide +kernel
theorem d_H_isWellWritten_13 : decode b_H_isWellWritten 13 = .ok (.if_icmp .eq 17, 3) := by decide +kernel
theorem d_H_isWellWritten_16 : decode b_H_isWellWritten 16 = .ok (.aload_n 0, 1) := by decide +kernel
theorem d_H_isWellWritten_17 : decode b_H_isWellWritten 17 = .ok (.getfield 9, 3) := by decide +kernel
theorem d_H_isWellWritten_20 : decode b_H_isWellWritten 20 = .ok (.iload_n 1, 1) := by decide +kernel
theorem d_H_isWellWritten_21 : decode b_H_isWellWritten 21 = .ok (.iconst 1, 1) := by decide +kernel
theorem d_H_isWellWritten_22 : decode b_H_isWellWritten 22 = .ok (.iadd, 1) := by decide +kernel
theorem d_H_isWellWritten_23 : decode b_H_isWellWritten 23 = .ok (.iaload, 1) := by decide +kernel
theorem d_H_isWellWritten_24 : decode b_H_isWellWritten 24 = .ok (.sipush 128, 3) := by decide +kernel
theorem d_H_isWellWritten_27 : decode b_H_isWellWritten 27 = .ok (.if_icmp .lt 7, 3) := by decide +kernel
theorem d_H_isWellWritten_30 : decode b_H_isWellWritten 30 = .ok (.iconst 1, 1) := by decide +kernel
theorem d_H_isWellWritten_31 : decode b_H_isWellWritten 31 = .ok (.goto 4, 3) := by decide +kernel
theorem d_H_isWellWritten_34 : decode b_H_isWellWritten 34 = .ok (.iconst 0, 1) := by decide +kernel
theorem d_H_isWellWritten_35 : decode b_H_isWellWritten 35 = .ok (.ireturn, 1) := by decide +kernel
theorem d_H_isWellWritten_36 : decode b_H_isWellWritten 36 = .ok (.iload_n 3, 1) := by decide +kernel
theorem d_H_isWellWritten_37 : decode b_H_isWellWritten 37 = .ok (.sipush 128, 3) := by decide +kernel
theorem d_H_isWellWritten_40 : decode b_H_isWellWritten 40 = .ok (.if_icmp .ge 13, 3) := by decide +kernel
theorem d_H_isWellWritten_43 : decode b_H_isWellWritten 43 = .ok (.iload_n 2, 1) := by decide +kernel
theorem d_H_isWellWritten_44 : decode b_H_isWellWritten 44 = .ok (.bipush 32, 2) := by decide +kernel
theorem d_H_isWellWritten_46 : decode b_H_isWellWritten 46 = .ok (.if_icmp .gt 7, 3) := by decide +kernel
theorem d_H_isWellWritten_49 : decode b_H_isWellWritten 49 = .ok (.iconst 1, 1) := by decide +kernel
theorem d_H_isWellWritten_50 : decode b_H_isWellWritten 50 = .ok (.goto 4, 3) := by decide +kernel
theorem d_H_isWellWritten_53 : decode b_H_isWellWritten 53 = .ok (.iconst 0, 1) := by decide +kernel
theorem d_H_isWellWritten_54 : decode b_H_isWellWritten 54 = .ok (.ireturn, 1) := by decide +kernel
theorem d_L_copy_0 : decode b_L_copy 0 = .ok (.aload_n 1, 1) := by decide +kernel
theorem d_L_copy_1 : decode b_L_copy 1 = .ok (.iconst 0, 1) := by decide +kernel
theorem d_L_copy_2 : decode b_L_copy 2 = .ok (.aload_n 0, 1) := by decide +kernel
theorem d_L_copy_3 : decode b_L_copy 3 = .ok (.iconst 0, 1) := by decide +kernel
theorem d_L_copy_4 : decode b_L_copy 4 = .ok (.bipush 8, 2) := by decide +kernel
theorem d_L_copy_6 : decode b_L_copy 6 = .ok (.invokestatic 9, 3) := by decide +kernel
theorem d_L_copy_9 : decode b_L_copy 9 = .ok (.return_, 1) := by decide +kernel
theorem d_L_setLong_0 : decode b_L_setLong 0 = .ok (.bipush 6, 2) := by decide +kernel
theorem d_L_setLong_2 : decode b_L_setLong 2 = .ok (.iconst 2, 1) := by decide +kernel
theorem d_L_setLong_3 : decode b_L_setLong 3 = .ok (.iload_n 1, 1) := by decide +kernel
theorem d_L_setLong_4 : decode b_L_setLong 4 = .ok (.imul, 1) := by decide +kernel
theorem d_L_setLong_5 : decode b_L_setLong 5 = .ok (.isub, 1) := by decide +kernel
theorem d_L_setLong_6 : decode b_L_setLong 6 = .ok (.istore 4, 2) := by decide +kernel
theorem d_L_setLong_8 : decode b_L_setLong 8 = .ok (.aload_n 0, 1) := by decide +kernel
theorem d_L_setLong_9 : decode b_L_setLong 9 = .ok (.iload 4, 2) := by decide +kernel
theorem d_L_setLong_11 : decode b_L_setLong 11 = .ok (.lload_n 2, 1) := by decide +kernel
theorem d_L_setLong_12 : decode b_L_setLong 12 = .ok (.ldc2_w 15, 3) := by decide +kernel
theorem d_L_setLong_15 : decode b_L_setLong 15 = .ok (.land, 1) := by decide +kernel
theorem d_L_setLong_16 : decode b_L_setLong 16 = .ok (.lastore, 1) := by decide +kernel
theorem d_L_setLong_17 : decode b_L_setLong 17 = .ok (.aload_n 0, 1) := by decide +kernel
theorem d_L_setLong_18 : decode b_L_setLong 18 = .ok (.iload 4, 2) := by decide +kernel
theorem d_L_setLong_20 : decode b_L_setLong 20 = .ok (.iconst 1, 1) := by decide +kernel
theorem d_L_setLong_21 : decode b_L_setLong 21 = .ok (.iadd, 1) := by decide +kernel
theorem d_L_setLong_22 : decode b_L_setLong 22 = .ok (.lload_n 2, 1) := by decide +kernel
theorem d_L_setLong_23 : decode b_L_setLong 23 = .ok (.bipush 32, 2) := by decide +kernel
theorem d_L_setLong_25 : decode b_L_setLong 25 = .ok (.lushr, 1) := by decide +kernel
theorem d_L_setLong_26 : decode b_L_setLong 26 = .ok (.lastore, 1) := by decide +kernel
theorem d_L_setLong_27 : decode b_L_setLong 27 = .ok (.return_, 1) := by decide +kernel
theorem d_L_longOf_0 : decode b_L_longOf 0 = .ok (.bipush 6, 2) := by decide +kernel
theorem d_L_longOf_2 : decode b_L_longOf 2 = .ok (.iconst 2, 1) := by decide +kernel
theorem d_L_longOf_3 : decode b_L_longOf 3 = .ok (.iload_n 1, 1) := by decide +kernel
theorem d_L_longOf_4 : decode b_L_longOf 4 = .ok (.imul, 1) := by decide +kernel
theorem d_L_longOf_5 : decode b_L_longOf 5 = .ok (.isub, 1) := by decide +kernel
theorem d_L_longOf_6 : decode b_L_longOf 6 = .ok (.istore_n 2, 1) := by decide +kernel
theorem d_L_longOf_7 : decode b_L_longOf 7 = .ok (.aload_n 0, 1) := by decide +kernel
theorem d_L_longOf_8 : decode b_L_longOf 8 = .ok (.iload_n 2, 1) := by decide +kernel
theorem d_L_longOf_9 : decode b_L_longOf 9 = .ok (.iconst 1, 1) := by decide +kernel
theorem d_L_longOf_10 : decode b_L_longOf 10 = .ok (.iadd, 1) := by decide +kernel
theorem d_L_longOf_11 : decode b_L_longOf 11 = .ok (.laload, 1) := by decide +kernel
theorem d_L_longOf_12 : decode b_L_longOf 12 = .ok (.bipush 32, 2) := by decide +kernel
theorem d_L_longOf_14 : decode b_L_longOf 14 = .ok (.lshl, 1) := by decide +kernel
theorem d_L_longOf_15 : decode b_L_longOf 15 = .ok (.aload_n 0, 1) := by decide +kernel
theorem d_L_longOf_16 : decode b_L_longOf 16 = .ok (.iload_n 2, 1) := by decide +kernel
theorem d_L_longOf_17 : decode b_L_longOf 17 = .ok (.laload, 1) := by decide +kernel
theorem d_L_longOf_18 : decode b_L_longOf 18 = .ok (.lor, 1) := by decide +kernel
theorem d_L_longOf_19 : decode b_L_longOf 19 = .ok (.lreturn, 1) := by decide +kernel
theorem d_L_isZero_0 : decode b_L_isZero 0 = .ok (.aload_n 0, 1) := by decide +kernel
theorem d_L_isZero_1 : decode b_L_isZero 1 = .ok (.getstatic 17, 3) := by decide +kernel
theorem d_L_isZero_4 : decode b_L_isZero 4 = .ok (.invokestatic 21, 3) := by decide +kernel
theorem d_L_isZero_7 : decode b_L_isZero 7 = .ok (.ireturn, 1) := by decide +kernel
theorem d_L_isOdd_0 : decode b_L_isOdd 0 = .ok (.aload_n 0, 1) := by decide +kernel
theorem d_L_isOdd_1 : decode b_L_isOdd 1 = .ok (.iconst 0, 1) := by decide +kernel
theorem d_L_isOdd_2 : decode b_L_isOdd 2 = .ok (.laload, 1) := by decide +kernel
theorem d_L_isOdd_3 : decode b_L_isOdd 3 = .ok (.lconst 1, 1) := by decide +kernel
theorem d_L_isOdd_4 : decode b_L_isOdd 4 = .ok (.land, 1) := by decide +kernel
theorem d_L_isOdd_5 : decode b_L_isOdd 5 = .ok (.lconst 0, 1) := by decide +kernel
theorem d_L_isOdd_6 : decode b_L_isOdd 6 = .ok (.lcmp, 1) := by decide +kernel
theorem d_L_isOdd_7 : decode b_L_isOdd 7 = .ok (.ifCond .eq 7, 3) := by decide +kernel
theorem d_L_isOdd_10 : decode b_L_isOdd 10 = .ok (.iconst 1, 1) := by decide +kernel
theorem d_L_isOdd_11 : decode b_L_isOdd 11 = .ok (.goto 4, 3) := by decide +kernel
theorem d_L_isOdd_14 : decode b_L_isOdd 14 = .ok (.iconst 0, 1) := by decide +kernel
theorem d_L_isOdd_15 : decode b_L_isOdd 15 = .ok (.ireturn, 1) := by decide +kernel
theorem d_L_hasBit_0 : decode b_L_hasBit 0 = .ok (.aload_n 0, 1) := by decide +kernel
theorem d_L_hasBit_1 : decode b_L_hasBit 1 = .ok (.iload_n 1, 1) := by decide +kernel
theorem d_L_hasBit_2 : decode b_L_hasBit 2 = .ok (.bipush 32, 2) := by decide +kernel
theorem d_L_hasBit_4 : decode b_L_hasBit 4 = .ok (.idiv, 1) := by decide +kernel
theorem d_L_hasBit_5 : decode b_L_hasBit 5 = .ok (.laload, 1) := by decide +kernel
theorem d_L_hasBit_6 : decode b_L_hasBit 6 = .ok (.iload_n 1, 1) := by decide +kernel
theorem d_L_hasBit_7 : decode b_L_hasBit 7 = .ok (.bipush 32, 2) := by decide +kernel
theorem d_L_hasBit_9 : decode b_L_hasBit 9 = .ok (.irem, 1) := by decide +kernel
theorem d_L_hasBit_10 : decode b_L_hasBit 10 = .ok (.lushr, 1) := by decide +kernel
theorem d_L_hasBit_11 : decode b_L_hasBit 11 = .ok (.lconst 1, 1) := by decide +kernel
theorem d_L_hasBit_12 : decode b_L_hasBit 12 = .ok (.land, 1) := by decide +kernel
theorem d_L_hasBit_13 : decode b_L_hasBit 13 = .ok (.lconst 0, 1) := by decide +kernel
theorem d_L_hasBit_14 : decode b_L_hasBit 14 = .ok (.lcmp, 1) := by decide +kernel
theorem d_L_hasBit_15 : decode b_L_hasBit 15 = .ok (.ifCond .eq 7, 3) := by decide +kernel
theorem d_L_hasBit_18 : decode b_L_hasBit 18 = .ok (.iconst 1, 1) := by decide +kernel
theorem d_L_hasBit_19 : decode b_L_hasBit 19 = .ok (.goto 4, 3) := by decide +kernel
theorem d_L_hasBit_22 : decode b_L_hasBit 22 = .ok (.iconst 0, 1) := by decide +kernel
theorem d_L_hasBit_23 : decode b_L_hasBit 23 = .ok (.ireturn, 1) := by decide +kernel
theorem d_L_areSame_0 : decode b_L_areSame 0 = .ok (.iconst 0, 1) := by decide +kernel
theorem d_L_areSame_1 : decode b_L_areSame 1 = .ok (.istore_n 2, 1) := by decide +kernel
theorem d_L_areSame_2 : decode b_L_areSame 2 = .ok (.iload_n 2, 1) := by decide +kernel
theorem d_L_areSame_3 : decode b_L_areSame 3 = .ok (.bipush 8, 2) := by decide +kernel
theorem d_L_areSame_5 : decode b_L_areSame 5 = .ok (.if_icmp .ge 21, 3) := by decide +kernel
theorem d_L_areSame_8 : decode b_L_areSame 8 = .ok (.aload_n 0, 1) := by decide +kernel
theorem d_L_areSame_9 : decode b_L_areSame 9 = .ok (.iload_n 2, 1) := by decide +kernel
theorem d_L_areSame_10 : decode b_L_areSame 10 = .ok (.laload, 1) := by decide +kernel
theorem d_L_areSame_11 : decode b_L_areSame 11 = .ok (.aload_n 1, 1) := by decide +kernel
theorem d_L_areSame_12 : decode b_L_areSame 12 = .ok (.iload_n 2, 1) := by decide +kernel
theorem d_L_areSame_13 : decode b_L_areSame 13 = .ok (.laload, 1) := by decide +kernel
theorem d_L_areSame_14 : decode b_L_areSame 14 = .ok (.lcmp, 1) := by decide +kernel
theorem d_L_areSame_15 : decode b_L_areSame 15 = .ok (.ifCond .eq 5, 3) := by decide +kernel
theorem d_L_areSame_18 : decode b_L_areSame 18 = .ok (.iconst 0, 1) := by decide +kernel
theorem d_L_areSame_19 : decode b_L_areSame 19 = .ok (.ireturn, 1) := by decide +kernel
theorem d_L_areSame_20 : decode b_L_areSame 20 = .ok (.iinc 2 1, 3) := by decide +kernel
theorem d_L_areSame_23 : decode b_L_areSame 23 = .ok (.goto (-21), 3) := by decide +kernel
theorem d_L_areSame_26 : decode b_L_areSame 26 = .ok (.iconst 1, 1) := by decide +kernel
theorem d_L_areSame_27 : decode b_L_areSame 27 = .ok (.ireturn, 1) := by decide +kernel
theorem d_L_isBelow_0 : decode b_L_isBelow 0 = .ok (.bipush 7, 2) := by decide +kernel
theorem d_L_isBelow_2 : decode b_L_isBelow 2 = .ok (.istore_n 2, 1) := by decide +kernel
theorem d_L_isBelow_3 : decode b_L_isBelow 3 = .ok (.iload_n 2, 1) := by decide +kernel
theorem d_L_isBelow_4 : decode b_L_isBelow 4 = .ok (.ifCond .lt 35, 3) := by decide +kernel
theorem d_L_isBelow_7 : decode b_L_isBelow 7 = .ok (.aload_n 0, 1) := by decide +kernel
theorem d_L_isBelow_8 : decode b_L_isBelow 8 = .ok (.iload_n 2, 1) := by decide +kernel
theorem d_L_isBelow_9 : decode b_L_isBelow 9 = .ok (.laload, 1) := by decide +kernel
theorem d_L_isBelow_10 : decode b_L_isBelow 10 = .ok (.aload_n 1, 1) := by decide +kernel
theorem d_L_isBelow_11 : decode b_L_isBelow 11 = .ok (.iload_n 2, 1) := by decide +kernel
theorem d_L_isBelow_12 : decode b_L_isBelow 12 = .ok (.laload, 1) := by decide +kernel
theorem d_L_isBelow_13 : decode b_L_isBelow 13 = .ok (.lcmp, 1) := by decide +kernel
theorem d_L_isBelow_14 : decode b_L_isBelow 14 = .ok (.ifCond .eq 19, 3) := by decide +kernel
theorem d_L_isBelow_17 : decode b_L_isBelow 17 = .ok (.aload_n 0, 1) := by decide +kernel
theorem d_L_isBelow_18 : decode b_L_isBelow 18 = .ok (.iload_n 2, 1) := by decide +kernel
theorem d_L_isBelow_19 : decode b_L_isBelow 19 = .ok (.laload, 1) := by decide +kernel
theorem d_L_isBelow_20 : decode b_L_isBelow 20 = .ok (.aload_n 1, 1) := by decide +kernel
theorem d_L_isBelow_21 : decode b_L_isBelow 21 = .ok (.iload_n 2, 1) := by decide +kernel
theorem d_L_isBelow_22 : decode b_L_isBelow 22 = .ok (.laload, 1) := by decide +kernel
theorem d_L_isBelow_23 : decode b_L_isBelow 23 = .ok (.lcmp, 1) := by decide +kernel
theorem d_L_isBelow_24 : decode b_L_isBelow 24 = .ok (.ifCond .ge 7, 3) := by decide +kernel
theorem d_L_isBelow_27 : decode b_L_isBelow 27 = .ok (.iconst 1, 1) := by decide +kernel
theorem d_L_isBelow_28 : decode b_L_isBelow 28 = .ok (.goto 4, 3) := by decide +kernel
theorem d_L_isBelow_31 : decode b_L_isBelow 31 = .ok (.iconst 0, 1) := by decide +kernel
theorem d_L_isBelow_32 : decode b_L_isBelow 32 = .ok (.ireturn, 1) := by decide +kernel
theorem d_L_isBelow_33 : decode b_L_isBelow 33 = .ok (.iinc 2 (-1), 3) := by decide +kernel
theorem d_L_isBelow_36 : decode b_L_isBelow 36 = .ok (.goto (-33), 3) := by decide +kernel
theorem d_L_isBelow_39 : decode b_L_isBelow 39 = .ok (.iconst 0, 1) := by decide +kernel
theorem d_L_isBelow_40 : decode b_L_isBelow 40 = .ok (.ireturn, 1) := by decide +kernel
theorem d_L_add_0 : decode b_L_add 0 = .ok (.lconst 0, 1) := by decide +kernel
theorem d_L_add_1 : decode b_L_add 1 = .ok (.lstore_n 3, 1) := by decide +kernel
theorem d_L_add_2 : decode b_L_add 2 = .ok (.iconst 0, 1) := by decide +kernel
theorem d_L_add_3 : decode b_L_add 3 = .ok (.istore 5, 2) := by decide +kernel
theorem d_L_add_5 : decode b_L_add 5 = .ok (.iload 5, 2) := by decide +kernel
theorem d_L_add_7 : decode b_L_add 7 = .ok (.bipush 8, 2) := by decide +kernel
theorem d_L_add_9 : decode b_L_add 9 = .ok (.if_icmp .ge 38, 3) := by decide +kernel
theorem d_L_add_12 : decode b_L_add 12 = .ok (.aload_n 1, 1) := by decide +kernel
theorem d_L_add_13 : decode b_L_add 13 = .ok (.iload 5, 2) := by decide +kernel
theorem d_L_add_15 : decode b_L_add 15 = .ok (.laload, 1) := by decide +kernel
theorem d_L_add_16 : decode b_L_add 16 = .ok (.aload_n 2, 1) := by decide +kernel
theorem d_L_add_17 : decode b_L_add 17 = .ok (.iload 5, 2) := by decide +kernel
theorem d_L_add_19 : decode b_L_add 19 = .ok (.laload, 1) := by decide +kernel
theorem d_L_add_20 : decode b_L_add 20 = .ok (.ladd, 1) := by decide +kernel
theorem d_L_add_21 : decode b_L_add 21 = .ok (.lload_n 3, 1) := by decide +kernel
theorem d_L_add_22 : decode b_L_add 22 = .ok (.ladd, 1) := by decide +kernel
theorem d_L_add_23 : decode b_L_add 23 = .ok (.lstore 6, 2) := by decide +kernel
theorem d_L_add_25 : decode b_L_add 25 = .ok (.aload_n 0, 1) := by decide +kernel
theorem d_L_add_26 : decode b_L_add 26 = .ok (.iload 5, 2) := by decide +kernel
theorem d_L_add_28 : decode b_L_add 28 = .ok (.lload 6, 2) := by decide +kernel
theorem d_L_add_30 : decode b_L_add 30 = .ok (.ldc2_w 15, 3) := by decide +kernel
theorem d_L_add_33 : decode b_L_add 33 = .ok (.land, 1) := by decide +kernel
theorem d_L_add_34 : decode b_L_add 34 = .ok (.lastore, 1) := by decide +kernel
theorem d_L_add_35 : decode b_L_add 35 = .ok (.lload 6, 2) := by decide +kernel
theorem d_L_add_37 : decode b_L_add 37 = .ok (.bipush 32, 2) := by decide +kernel
theorem d_L_add_39 : decode b_L_add 39 = .ok (.lushr, 1) := by decide +kernel
theorem d_L_add_40 : decode b_L_add 40 = .ok (.lstore_n 3, 1) := by decide +kernel
theorem d_L_add_41 : decode b_L_add 41 = .ok (.iinc 5 1, 3) := by decide +kernel
theorem d_L_add_44 : decode b_L_add 44 = .ok (.goto (-39), 3) := by decide +kernel
theorem d_L_add_47 : decode b_L_add 47 = .ok (.lload_n 3, 1) := by decide +kernel
theorem d_L_add_48 : decode b_L_add 48 = .ok (.lreturn, 1) := by decide +kernel
theorem d_L_subtract_0 : decode b_L_subtract 0 = .ok (.lconst 0, 1) := by decide +kernel
theorem d_L_subtract_1 : decode b_L_subtract 1 = .ok (.lstore_n 3, 1) := by decide +kernel
theorem d_L_subtract_2 : decode b_L_subtract 2 = .ok (.iconst 0, 1) := by decide +kernel
theorem d_L_subtract_3 : decode b_L_subtract 3 = .ok (.istore 5, 2) := by decide +kernel
theorem d_L_subtract_5 : decode b_L_subtract 5 = .ok (.iload 5, 2) := by decide +kernel
theorem d_L_subtract_7 : decode b_L_subtract 7 = .ok (.bipush 8, 2) := by decide +kernel
theorem d_L_subtract_9 : decode b_L_subtract 9 = .ok (.if_icmp .ge 45, 3) := by decide +kernel
theorem d_L_subtract_12 : decode b_L_subtract 12 = .ok (.aload_n 1, 1) := by decide +kernel
theorem d_L_subtract_13 : decode b_L_subtract 13 = .ok (.iload 5, 2) := by decide +kernel
theorem d_L_subtract_15 : decode b_L_subtract 15 = .ok (.laload, 1) := by decide +kernel
theorem d_L_subtract_16 : decode b_L_subtract 16 = .ok (.aload_n 2, 1) := by decide +kernel
theorem d_L_subtract_17 : decode b_L_subtract 17 = .ok (.iload 5, 2) := by decide +kernel
theorem d_L_subtract_19 : decode b_L_subtract 19 = .ok (.laload, 1) := by decide +kernel
theorem d_L_subtract_20 : decode b_L_subtract 20 = .ok (.lsub, 1) := by decide +kernel
theorem d_L_subtract_21 : decode b_L_subtract 21 = .ok (.lload_n 3, 1) := by decide +kernel
theorem d_L_subtract_22 : decode b_L_subtract 22 = .ok (.lsub, 1) := by decide +kernel
theorem d_L_subtract_23 : decode b_L_subtract 23 = .ok (.lstore 6, 2) := by decide +kernel
theorem d_L_subtract_25 : decode b_L_subtract 25 = .ok (.aload_n 0, 1) := by decide +kernel
theorem d_L_subtract_26 : decode b_L_subtract 26 = .ok (.iload 5, 2) := by decide +kernel
theorem d_L_subtract_28 : decode b_L_subtract 28 = .ok (.lload 6, 2) := by decide +kernel
theorem d_L_subtract_30 : decode b_L_subtract 30 = .ok (.ldc2_w 15, 3) := by decide +kernel
theorem d_L_subtract_33 : decode b_L_subtract 33 = .ok (.land, 1) := by decide +kernel
theorem d_L_subtract_34 : decode b_L_subtract 34 = .ok (.lastore, 1) := by decide +kernel
theorem d_L_subtract_35 : decode b_L_subtract 35 = .ok (.lload 6, 2) := by decide +kernel
theorem d_L_subtract_37 : decode b_L_subtract 37 = .ok (.lconst 0, 1) := by decide +kernel
theorem d_L_subtract_38 : decode b_L_subtract 38 = .ok (.lcmp, 1) := by decide +kernel
theorem d_L_subtract_39 : decode b_L_subtract 39 = .ok (.ifCond .ge 7, 3) := by decide +kernel
theorem d_L_subtract_42 : decode b_L_subtract 42 = .ok (.lconst 1, 1) := by decide +kernel
theorem d_L_subtract_43 : decode b_L_subtract 43 = .ok (.goto 4, 3) := by decide +kernel
theorem d_L_subtract_46 : decode b_L_subtract 46 = .ok (.lconst 0, 1) := by decide +kernel
theorem d_L_subtract_47 : decode b_L_subtract 47 = .ok (.lstore_n 3, 1) := by decide +kernel
theorem d_L_subtract_48 : decode b_L_subtract 48 = .ok (.iinc 5 1, 3) := by decide +kernel
theorem d_L_subtract_51 : decode b_L_subtract 51 = .ok (.goto (-46), 3) := by decide +kernel
theorem d_L_subtract_54 : decode b_L_subtract 54 = .ok (.lload_n 3, 1) := by decide +kernel
theorem d_L_subtract_55 : decode b_L_subtract 55 = .ok (.lreturn, 1) := by decide +kernel
theorem d_M_init_0 : decode b_M_init 0 = .ok (.aload_n 0, 1) := by decide +kernel
theorem d_M_init_1 : decode b_M_init 1 = .ok (.invokespecial 3, 3) := by decide +kernel
theorem d_M_init_4 : decode b_M_init 4 = .ok (.aload_n 0, 1) := by decide +kernel
theorem d_M_init_5 : decode b_M_init 5 = .ok (.bipush 16, 2) := by decide +kernel
theorem d_M_init_7 : decode b_M_init 7 = .ok (.newarray .long, 2) := by decide +kernel
theorem d_M_init_9 : decode b_M_init 9 = .ok (.putfield 9, 3) := by decide +kernel
theorem d_M_init_12 : decode b_M_init 12 = .ok (.aload_n 0, 1) := by decide +kernel
theorem d_M_init_13 : decode b_M_init 13 = .ok (.bipush 8, 2) := by decide +kernel
theorem d_M_init_15 : decode b_M_init 15 = .ok (.newarray .long, 2) := by decide +kernel
theorem d_M_init_17 : decode b_M_init 17 = .ok (.putfield 15, 3) := by decide +kernel
theorem d_M_init_20 : decode b_M_init 20 = .ok (.aload_n 0, 1) := by decide +kernel
theorem d_M_init_21 : decode b_M_init 21 = .ok (.bipush 8, 2) := by decide +kernel
theorem d_M_init_23 : decode b_M_init 23 = .ok (.newarray .long, 2) := by decide +kernel
theorem d_M_init_25 : decode b_M_init 25 = .ok (.putfield 18, 3) := by decide +kernel
theorem d_M_init_28 : decode b_M_init 28 = .ok (.aload_n 0, 1) := by decide +kernel
theorem d_M_init_29 : decode b_M_init 29 = .ok (.aload_n 1, 1) := by decide +kernel
theorem d_M_init_30 : decode b_M_init 30 = .ok (.putfield 21, 3) := by decide +kernel
theorem d_M_init_33 : decode b_M_init 33 = .ok (.aload_n 0, 1) := by decide +kernel
theorem d_M_init_34 : decode b_M_init 34 = .ok (.aload_n 2, 1) := by decide +kernel
theorem d_M_init_35 : decode b_M_init 35 = .ok (.putfield 24, 3) := by decide +kernel
theorem d_M_init_38 : decode b_M_init 38 = .ok (.aload_n 0, 1) := by decide +kernel
theorem d_M_init_39 : decode b_M_init 39 = .ok (.aload_n 3, 1) := by decide +kernel
theorem d_M_init_40 : decode b_M_init 40 = .ok (.putfield 27, 3) := by decide +kernel
theorem d_M_init_43 : decode b_M_init 43 = .ok (.return_, 1) := by decide +kernel
theorem d_M_isAbove_0 : decode b_M_isAbove 0 = .ok (.aload_n 1, 1) := by decide +kernel
theorem d_M_isAbove_1 : decode b_M_isAbove 1 = .ok (.aload_n 0, 1) := by decide +kernel
theorem d_M_isAbove_2 : decode b_M_isAbove 2 = .ok (.getfield 21, 3) := by decide +kernel
theorem d_M_isAbove_5 : decode b_M_isAbove 5 = .ok (.invokestatic 30, 3) := by decide +kernel
theorem d_M_isAbove_8 : decode b_M_isAbove 8 = .ok (.ireturn, 1) := by decide +kernel
theorem d_M_bringBelow_0 : decode b_M_bringBelow 0 = .ok (.aload_n 0, 1) := by decide +kernel
theorem d_M_bringBelow_1 : decode b_M_bringBelow 1 = .ok (.aload_n 1, 1) := by decide +kernel
theorem d_M_bringBelow_2 : decode b_M_bringBelow 2 = .ok (.invokevirtual 36, 3) := by decide +kernel
theorem d_M_bringBelow_5 : decode b_M_bringBelow 5 = .ok (.ifCond .ne 13, 3) := by decide +kernel
theorem d_M_bringBelow_8 : decode b_M_bringBelow 8 = .ok (.aload_n 1, 1) := by decide +kernel
theorem d_M_bringBelow_9 : decode b_M_bringBelow 9 = .ok (.aload_n 1, 1) := by decide +kernel
theorem d_M_bringBelow_10 : decode b_M_bringBelow 10 = .ok (.aload_n 0, 1) := by decide +kernel
theorem d_M_bringBelow_11 : decode b_M_bringBelow 11 = .ok (.getfield 21, 3) := by decide +kernel
theorem d_M_bringBelow_14 : decode b_M_bringBelow 14 = .ok (.invokestatic 40, 3) := by decide +kernel
theorem d_M_bringBelow_17 : decode b_M_bringBelow 17 = .ok (.pop2, 1) := by decide +kernel
theorem d_M_bringBelow_18 : decode b_M_bringBelow 18 = .ok (.return_, 1) := by decide +kernel
theorem d_M_add_0 : decode b_M_add 0 = .ok (.aload_n 1, 1) := by decide +kernel
theorem d_M_add_1 : decode b_M_add 1 = .ok (.aload_n 2, 1) := by decide +kernel
theorem d_M_add_2 : decode b_M_add 2 = .ok (.aload_n 3, 1) := by decide +kernel
theorem d_M_add_3 : decode b_M_add 3 = .ok (.invokestatic 44, 3) := by decide +kernel
theorem d_M_add_6 : decode b_M_add 6 = .ok (.lstore 4, 2) := by decide +kernel
theorem d_M_add_8 : decode b_M_add 8 = .ok (.lload 4, 2) := by decide +kernel
theorem d_M_add_10 : decode b_M_add 10 = .ok (.lconst 0, 1) := by decide +kernel
theorem d_M_add_11 : decode b_M_add 11 = .ok (.lcmp, 1) := by decide +kernel
theorem d_M_add_12 : decode b_M_add 12 = .ok (.ifCond .ne 11, 3) := by decide +kernel
theorem d_M_add_15 : decode b_M_add 15 = .ok (.aload_n 0, 1) := by decide +kernel
theorem d_M_add_16 : decode b_M_add 16 = .ok (.aload_n 1, 1) := by decide +kernel
theorem d_M_add_17 : decode b_M_add 17 = .ok (.invokevirtual 36, 3) := by decide +kernel
theorem d_M_add_20 : decode b_M_add 20 = .ok (.ifCond .ne 13, 3) := by decide +kernel
theorem d_M_add_23 : decode b_M_add 23 = .ok (.aload_n 1, 1) := by decide +kernel
theorem d_M_add_24 : decode b_M_add 24 = .ok (.aload_n 1, 1) := by decide +kernel
theorem d_M_add_25 : decode b_M_add 25 = .ok (.aload_n 0, 1) := by decide +kernel
theorem d_M_add_26 : decode b_M_add 26 = .ok (.getfield 21, 3) := by decide +kernel
theorem d_M_add_29 : decode b_M_add 29 = .ok (.invokestatic 40, 3) := by decide +kernel
theorem d_M_add_32 : decode b_M_add 32 = .ok (.pop2, 1) := by decide +kernel
theorem d_M_add_33 : decode b_M_add 33 = .ok (.return_, 1) := by decide +kernel
theorem d_M_subtract_0 : decode b_M_subtract 0 = .ok (.aload_n 1, 1) := by decide +kernel
theorem d_M_subtract_1 : decode b_M_subtract 1 = .ok (.aload_n 2, 1) := by decide +kernel
theorem d_M_subtract_2 : decode b_M_subtract 2 = .ok (.aload_n 3, 1) := by decide +kernel
theorem d_M_subtract_3 : decode b_M_subtract 3 = .ok (.invokestatic 40, 3) := by decide +kernel
theorem d_M_subtract_6 : decode b_M_subtract 6 = .ok (.lstore 4, 2) := by decide +kernel
theorem d_M_subtract_8 : decode b_M_subtract 8 = .ok (.lload 4, 2) := by decide +kernel
theorem d_M_subtract_10 : decode b_M_subtract 10 = .ok (.lconst 0, 1) := by decide +kernel
theorem d_M_subtract_11 : decode b_M_subtract 11 = .ok (.lcmp, 1) := by decide +kernel
theorem d_M_subtract_12 : decode b_M_subtract 12 = .ok (.ifCond .eq 13, 3) := by decide +kernel
theorem d_M_subtract_15 : decode b_M_subtract 15 = .ok (.aload_n 1, 1) := by decide +kernel
theorem d_M_subtract_16 : decode b_M_subtract 16 = .ok (.aload_n 1, 1) := by decide +kernel
theorem d_M_subtract_17 : decode b_M_subtract 17 = .ok (.aload_n 0, 1) := by decide +kernel
theorem d_M_subtract_18 : decode b_M_subtract 18 = .ok (.getfield 21, 3) := by decide +kernel
theorem d_M_subtract_21 : decode b_M_subtract 21 = .ok (.invokestatic 44, 3) := by decide +kernel
theorem d_M_subtract_24 : decode b_M_subtract 24 = .ok (.pop2, 1) := by decide +kernel
theorem d_M_subtract_25 : decode b_M_subtract 25 = .ok (.return_, 1) := by decide +kernel
theorem d_M_multiply_0 : decode b_M_multiply 0 = .ok (.iconst 0, 1) := by decide +kernel
theorem d_M_multiply_1 : decode b_M_multiply 1 = .ok (.istore 4, 2) := by decide +kernel
theorem d_M_multiply_3 : decode b_M_multiply 3 = .ok (.iload 4, 2) := by decide +kernel
theorem d_M_multiply_5 : decode b_M_multiply 5 = .ok (.aload_n 0, 1) := by decide +kernel
theorem d_M_multiply_6 : decode b_M_multiply 6 = .ok (.getfield 9, 3) := by decide +kernel
theorem d_M_multiply_9 : decode b_M_multiply 9 = .ok (.arraylength, 1) := by decide +kernel
theorem d_M_multiply_10 : decode b_M_multiply 10 = .ok (.if_icmp .ge 17, 3) := by decide +kernel
theorem d_M_multiply_13 : decode b_M_multiply 13 = .ok (.aload_n 0, 1) := by decide +kernel
theorem d_M_multiply_14 : decode b_M_multiply 14 = .ok (.getfield 9, 3) := by decide +kernel
theorem d_M_multiply_17 : decode b_M_multiply 17 = .ok (.iload 4, 2) := by decide +kernel
theorem d_M_multiply_19 : decode b_M_multiply 19 = .ok (.lconst 0, 1) := by decide +kernel
theorem d_M_multiply_20 : decode b_M_multiply 20 = .ok (.lastore, 1) := by decide +kernel
theorem d_M_multiply_21 : decode b_M_multiply 21 = .ok (.iinc 4 1, 3) := by decide +kernel
theorem d_M_multiply_24 : decode b_M_multiply 24 = .ok (.goto (-21), 3) := by decide +kernel
theorem d_M_multiply_27 : decode b_M_multiply 27 = .ok (.iconst 0, 1) := by decide +kernel
theorem d_M_multiply_28 : decode b_M_multiply 28 = .ok (.istore 4, 2) := by decide +kernel
theorem d_M_multiply_30 : decode b_M_multiply 30 = .ok (.iload 4, 2) := by decide +kernel
theorem d_M_multiply_32 : decode b_M_multiply 32 = .ok (.bipush 8, 2) := by decide +kernel
theorem d_M_multiply_34 : decode b_M_multiply 34 = .ok (.if_icmp .ge 22, 3) := by decide +kernel
theorem d_M_multiply_37 : decode b_M_multiply 37 = .ok (.aload_n 0, 1) := by decide +kernel
theorem d_M_multiply_38 : decode b_M_multiply 38 = .ok (.aload_n 2, 1) := by decide +kernel
theorem d_M_multiply_39 : decode b_M_multiply 39 = .ok (.iload 4, 2) := by decide +kernel
theorem d_M_multiply_41 : decode b_M_multiply 41 = .ok (.laload, 1) := by decide +kernel
theorem d_M_multiply_42 : decode b_M_multiply 42 = .ok (.aload_n 3, 1) := by decide +kernel
theorem d_M_multiply_43 : decode b_M_multiply 43 = .ok (.bipush 8, 2) := by decide +kernel
theorem d_M_multiply_45 : decode b_M_multiply 45 = .ok (.iload 4, 2) := by decide +kernel
theorem d_M_multiply_47 : decode b_M_multiply 47 = .ok (.invokevirtual 47, 3) := by decide +kernel
theorem d_M_multiply_50 : decode b_M_multiply 50 = .ok (.iinc 4 1, 3) := by decide +kernel
theorem d_M_multiply_53 : decode b_M_multiply 53 = .ok (.goto (-23), 3) := by decide +kernel
theorem d_M_multiply_56 : decode b_M_multiply 56 = .ok (.aload_n 0, 1) := by decide +kernel
theorem d_M_multiply_57 : decode b_M_multiply 57 = .ok (.bipush 8, 2) := by decide +kernel
theorem d_M_multiply_59 : decode b_M_multiply 59 = .ok (.invokevirtual 51, 3) := by decide +kernel
theorem d_M_multiply_62 : decode b_M_multiply 62 = .ok (.aload_n 0, 1) := by decide +kernel
theorem d_M_multiply_63 : decode b_M_multiply 63 = .ok (.aload_n 0, 1) := by decide +kernel
theorem d_M_multiply_64 : decode b_M_multiply 64 = .ok (.getfield 24, 3) := by decide +kernel
theorem d_M_multiply_67 : decode b_M_multiply 67 = .ok (.arraylength, 1) := by decide +kernel
theorem d_M_multiply_68 : decode b_M_multiply 68 = .ok (.invokevirtual 51, 3) := by decide +kernel
theorem d_M_multiply_71 : decode b_M_multiply 71 = .ok (.aload_n 0, 1) := by decide +kernel
theorem d_M_multiply_72 : decode b_M_multiply 72 = .ok (.iconst 1, 1) := by decide +kernel
theorem d_M_multiply_73 : decode b_M_multiply 73 = .ok (.invokevirtual 51, 3) := by decide +kernel
theorem d_M_multiply_76 : decode b_M_multiply 76 = .ok (.aload_n 0, 1) := by decide +kernel
theorem d_M_multiply_77 : decode b_M_multiply 77 = .ok (.iconst 1, 1) := by decide +kernel
theorem d_M_multiply_78 : decode b_M_multiply 78 = .ok (.invokevirtual 51, 3) := by decide +kernel
theorem d_M_multiply_81 : decode b_M_multiply 81 = .ok (.aload_n 1, 1) := by decide +kernel
theorem d_M_multiply_82 : decode b_M_multiply 82 = .ok (.aload_n 0, 1) := by decide +kernel
theorem d_M_multiply_83 : decode b_M_multiply 83 = .ok (.getfield 9, 3) := by decide +kernel
theorem d_M_multiply_86 : decode b_M_multiply 86 = .ok (.invokestatic 55, 3) := by decide +kernel
theorem d_M_multiply_89 : decode b_M_multiply 89 = .ok (.aload_n 0, 1) := by decide +kernel
theorem d_M_multiply_90 : decode b_M_multiply 90 = .ok (.aload_n 1, 1) := by decide +kernel
theorem d_M_multiply_91 : decode b_M_multiply 91 = .ok (.invokevirtual 59, 3) := by decide +kernel
theorem d_M_multiply_94 : decode b_M_multiply 94 = .ok (.return_, 1) := by decide +kernel
theorem d_M_invert_0 : decode b_M_invert 0 = .ok (.aload_n 0, 1) := by decide +kernel
theorem d_M_invert_1 : decode b_M_invert 1 = .ok (.aload_n 1, 1) := by decide +kernel
theorem d_M_invert_2 : decode b_M_invert 2 = .ok (.aload_n 2, 1) := by decide +kernel
theorem d_M_invert_3 : decode b_M_invert 3 = .ok (.aload_n 0, 1) := by decide +kernel
theorem d_M_invert_4 : decode b_M_invert 4 = .ok (.getfield 27, 3) := by decide +kernel
theorem d_M_invert_7 : decode b_M_invert 7 = .ok (.invokevirtual 63, 3) := by decide +kernel
theorem d_M_invert_10 : decode b_M_invert 10 = .ok (.return_, 1) := by decide +kernel
theorem d_M_raise_0 : decode b_M_raise 0 = .ok (.aload_n 0, 1) := by decide +kernel
theorem d_M_raise_1 : decode b_M_raise 1 = .ok (.getfield 18, 3) := by decide +kernel
theorem d_M_raise_4 : decode b_M_raise 4 = .ok (.getstatic 67, 3) := by decide +kernel
theorem d_M_raise_7 : decode b_M_raise 7 = .ok (.invokestatic 55, 3) := by decide +kernel
theorem d_M_raise_10 : decode b_M_raise 10 = .ok (.sipush 255, 3) := by decide +kernel
theorem d_M_raise_13 : decode b_M_raise 13 = .ok (.istore 4, 2) := by decide +kernel
theorem d_M_raise_15 : decode b_M_raise 15 = .ok (.iload 4, 2) := by decide +kernel
theorem d_M_raise_17 : decode b_M_raise 17 = .ok (.ifCond .lt 47, 3) := by decide +kernel
theorem d_M_raise_20 : decode b_M_raise 20 = .ok (.aload_n 0, 1) := by decide +kernel
theorem d_M_raise_21 : decode b_M_raise 21 = .ok (.aload_n 0, 1) := by decide +kernel
theorem d_M_raise_22 : decode b_M_raise 22 = .ok (.getfield 18, 3) := by decide +kernel
