/-! the instructions -/
theorem d_R_join_300 : decode b_R_join 300 = .ok (.bipush 31, 2) := by decide +kernel
theorem d_R_join_302 : decode b_R_join 302 = .ok (.bipush 8, 2) := by decide +kernel
theorem d_R_join_304 : decode b_R_join 304 = .ok (.invokevirtual 112, 3) := by decide +kernel
theorem d_R_join_307 : decode b_R_join 307 = .ok (.aload_n 0, 1) := by decide +kernel
theorem d_R_join_308 : decode b_R_join 308 = .ok (.iload_n 1, 1) := by decide +kernel
theorem d_R_join_309 : decode b_R_join 309 = .ok (.bipush 32, 2) := by decide +kernel
theorem d_R_join_311 : decode b_R_join 311 = .ok (.bipush 34, 2) := by decide +kernel
theorem d_R_join_313 : decode b_R_join 313 = .ok (.bipush 8, 2) := by decide +kernel
theorem d_R_join_315 : decode b_R_join 315 = .ok (.invokevirtual 96, 3) := by decide +kernel
theorem d_R_join_318 : decode b_R_join 318 = .ok (.aload_n 0, 1) := by decide +kernel
theorem d_R_join_319 : decode b_R_join 319 = .ok (.iload_n 1, 1) := by decide +kernel
theorem d_R_join_320 : decode b_R_join 320 = .ok (.iconst 2, 1) := by decide +kernel
theorem d_R_join_321 : decode b_R_join 321 = .ok (.iadd, 1) := by decide +kernel
theorem d_R_join_322 : decode b_R_join 322 = .ok (.bipush 35, 2) := by decide +kernel
theorem d_R_join_324 : decode b_R_join 324 = .ok (.bipush 36, 2) := by decide +kernel
theorem d_R_join_326 : decode b_R_join 326 = .ok (.bipush 8, 2) := by decide +kernel
theorem d_R_join_328 : decode b_R_join 328 = .ok (.invokevirtual 96, 3) := by decide +kernel
theorem d_R_join_331 : decode b_R_join 331 = .ok (.return_, 1) := by decide +kernel
theorem d_R_multiple_0 : decode b_R_multiple 0 = .ok (.aload_n 0, 1) := by decide +kernel
theorem d_R_multiple_1 : decode b_R_multiple 1 = .ok (.bipush 27, 2) := by decide +kernel
theorem d_R_multiple_3 : decode b_R_multiple 3 = .ok (.invokevirtual 62, 3) := by decide +kernel
theorem d_R_multiple_6 : decode b_R_multiple 6 = .ok (.sipush 255, 3) := by decide +kernel
theorem d_R_multiple_9 : decode b_R_multiple 9 = .ok (.istore_n 2, 1) := by decide +kernel
theorem d_R_multiple_10 : decode b_R_multiple 10 = .ok (.iload_n 2, 1) := by decide +kernel
theorem d_R_multiple_11 : decode b_R_multiple 11 = .ok (.ifCond .lt 49, 3) := by decide +kernel
theorem d_R_multiple_14 : decode b_R_multiple 14 = .ok (.aload_n 0, 1) := by decide +kernel
theorem d_R_multiple_15 : decode b_R_multiple 15 = .ok (.bipush 25, 2) := by decide +kernel
theorem d_R_multiple_17 : decode b_R_multiple 17 = .ok (.invokevirtual 118, 3) := by decide +kernel
theorem d_R_multiple_20 : decode b_R_multiple 20 = .ok (.ifCond .ne 9, 3) := by decide +kernel
theorem d_R_multiple_23 : decode b_R_multiple 23 = .ok (.aload_n 0, 1) := by decide +kernel
theorem d_R_multiple_24 : decode b_R_multiple 24 = .ok (.bipush 25, 2) := by decide +kernel
theorem d_R_multiple_26 : decode b_R_multiple 26 = .ok (.invokevirtual 130, 3) := by decide +kernel
theorem d_R_multiple_29 : decode b_R_multiple 29 = .ok (.aload_n 0, 1) := by decide +kernel
theorem d_R_multiple_30 : decode b_R_multiple 30 = .ok (.iload_n 1, 1) := by decide +kernel
theorem d_R_multiple_31 : decode b_R_multiple 31 = .ok (.iload_n 2, 1) := by decide +kernel
theorem d_R_multiple_32 : decode b_R_multiple 32 = .ok (.invokevirtual 100, 3) := by decide +kernel
theorem d_R_multiple_35 : decode b_R_multiple 35 = .ok (.ifCond .eq 19, 3) := by decide +kernel
theorem d_R_multiple_38 : decode b_R_multiple 38 = .ok (.aload_n 0, 1) := by decide +kernel
theorem d_R_multiple_39 : decode b_R_multiple 39 = .ok (.bipush 28, 2) := by decide +kernel
theorem d_R_multiple_41 : decode b_R_multiple 41 = .ok (.bipush 22, 2) := by decide +kernel
theorem d_R_multiple_43 : decode b_R_multiple 43 = .ok (.invokevirtual 127, 3) := by decide +kernel
theorem d_R_multiple_46 : decode b_R_multiple 46 = .ok (.aload_n 0, 1) := by decide +kernel
theorem d_R_multiple_47 : decode b_R_multiple 47 = .ok (.bipush 25, 2) := by decide +kernel
theorem d_R_multiple_49 : decode b_R_multiple 49 = .ok (.bipush 28, 2) := by decide +kernel
theorem d_R_multiple_51 : decode b_R_multiple 51 = .ok (.invokevirtual 133, 3) := by decide +kernel
theorem d_R_multiple_54 : decode b_R_multiple 54 = .ok (.iinc 2 (-1), 3) := by decide +kernel
theorem d_R_multiple_57 : decode b_R_multiple 57 = .ok (.goto (-47), 3) := by decide +kernel
theorem d_R_multiple_60 : decode b_R_multiple 60 = .ok (.return_, 1) := by decide +kernel
theorem d_R_isPoint_0 : decode b_R_isPoint 0 = .ok (.aload_n 0, 1) := by decide +kernel
theorem d_R_isPoint_1 : decode b_R_isPoint 1 = .ok (.iload_n 1, 1) := by decide +kernel
theorem d_R_isPoint_2 : decode b_R_isPoint 2 = .ok (.bipush 8, 2) := by decide +kernel
theorem d_R_isPoint_4 : decode b_R_isPoint 4 = .ok (.invokevirtual 78, 3) := by decide +kernel
theorem d_R_isPoint_7 : decode b_R_isPoint 7 = .ok (.ifCond .ge 13, 3) := by decide +kernel
theorem d_R_isPoint_10 : decode b_R_isPoint 10 = .ok (.aload_n 0, 1) := by decide +kernel
theorem d_R_isPoint_11 : decode b_R_isPoint 11 = .ok (.iload_n 2, 1) := by decide +kernel
theorem d_R_isPoint_12 : decode b_R_isPoint 12 = .ok (.bipush 8, 2) := by decide +kernel
theorem d_R_isPoint_14 : decode b_R_isPoint 14 = .ok (.invokevirtual 78, 3) := by decide +kernel
theorem d_R_isPoint_17 : decode b_R_isPoint 17 = .ok (.ifCond .lt 5, 3) := by decide +kernel
theorem d_R_isPoint_20 : decode b_R_isPoint 20 = .ok (.iconst 0, 1) := by decide +kernel
theorem d_R_isPoint_21 : decode b_R_isPoint 21 = .ok (.ireturn, 1) := by decide +kernel
theorem d_R_isPoint_22 : decode b_R_isPoint 22 = .ok (.aload_n 0, 1) := by decide +kernel
theorem d_R_isPoint_23 : decode b_R_isPoint 23 = .ok (.bipush 33, 2) := by decide +kernel
theorem d_R_isPoint_25 : decode b_R_isPoint 25 = .ok (.iload_n 1, 1) := by decide +kernel
theorem d_R_isPoint_26 : decode b_R_isPoint 26 = .ok (.invokevirtual 136, 3) := by decide +kernel
theorem d_R_isPoint_29 : decode b_R_isPoint 29 = .ok (.aload_n 0, 1) := by decide +kernel
theorem d_R_isPoint_30 : decode b_R_isPoint 30 = .ok (.bipush 32, 2) := by decide +kernel
theorem d_R_isPoint_32 : decode b_R_isPoint 32 = .ok (.iload_n 2, 1) := by decide +kernel
theorem d_R_isPoint_33 : decode b_R_isPoint 33 = .ok (.iload_n 2, 1) := by decide +kernel
theorem d_R_isPoint_34 : decode b_R_isPoint 34 = .ok (.bipush 8, 2) := by decide +kernel
theorem d_R_isPoint_36 : decode b_R_isPoint 36 = .ok (.invokevirtual 96, 3) := by decide +kernel
theorem d_R_isPoint_39 : decode b_R_isPoint 39 = .ok (.aload_n 0, 1) := by decide +kernel
theorem d_R_isPoint_40 : decode b_R_isPoint 40 = .ok (.bipush 32, 2) := by decide +kernel
theorem d_R_isPoint_42 : decode b_R_isPoint 42 = .ok (.bipush 33, 2) := by decide +kernel
theorem d_R_isPoint_44 : decode b_R_isPoint 44 = .ok (.invokevirtual 78, 3) := by decide +kernel
theorem d_R_isPoint_47 : decode b_R_isPoint 47 = .ok (.ifCond .ne 7, 3) := by decide +kernel
theorem d_R_isPoint_50 : decode b_R_isPoint 50 = .ok (.iconst 1, 1) := by decide +kernel
theorem d_R_isPoint_51 : decode b_R_isPoint 51 = .ok (.goto 4, 3) := by decide +kernel
theorem d_R_isPoint_54 : decode b_R_isPoint 54 = .ok (.iconst 0, 1) := by decide +kernel
theorem d_R_isPoint_55 : decode b_R_isPoint 55 = .ok (.ireturn, 1) := by decide +kernel
theorem d_R_curve_0 : decode b_R_curve 0 = .ok (.aload_n 0, 1) := by decide +kernel
theorem d_R_curve_1 : decode b_R_curve 1 = .ok (.bipush 31, 2) := by decide +kernel
theorem d_R_curve_3 : decode b_R_curve 3 = .ok (.iload_n 2, 1) := by decide +kernel
theorem d_R_curve_4 : decode b_R_curve 4 = .ok (.iload_n 2, 1) := by decide +kernel
theorem d_R_curve_5 : decode b_R_curve 5 = .ok (.bipush 8, 2) := by decide +kernel
theorem d_R_curve_7 : decode b_R_curve 7 = .ok (.invokevirtual 96, 3) := by decide +kernel
theorem d_R_curve_10 : decode b_R_curve 10 = .ok (.aload_n 0, 1) := by decide +kernel
theorem d_R_curve_11 : decode b_R_curve 11 = .ok (.bipush 31, 2) := by decide +kernel
theorem d_R_curve_13 : decode b_R_curve 13 = .ok (.bipush 31, 2) := by decide +kernel
theorem d_R_curve_15 : decode b_R_curve 15 = .ok (.iload_n 2, 1) := by decide +kernel
theorem d_R_curve_16 : decode b_R_curve 16 = .ok (.bipush 8, 2) := by decide +kernel
theorem d_R_curve_18 : decode b_R_curve 18 = .ok (.invokevirtual 96, 3) := by decide +kernel
theorem d_R_curve_21 : decode b_R_curve 21 = .ok (.aload_n 0, 1) := by decide +kernel
theorem d_R_curve_22 : decode b_R_curve 22 = .ok (.iload_n 1, 1) := by decide +kernel
theorem d_R_curve_23 : decode b_R_curve 23 = .ok (.bipush 31, 2) := by decide +kernel
theorem d_R_curve_25 : decode b_R_curve 25 = .ok (.bipush 21, 2) := by decide +kernel
theorem d_R_curve_27 : decode b_R_curve 27 = .ok (.bipush 8, 2) := by decide +kernel
theorem d_R_curve_29 : decode b_R_curve 29 = .ok (.invokevirtual 124, 3) := by decide +kernel
theorem d_R_curve_32 : decode b_R_curve 32 = .ok (.return_, 1) := by decide +kernel
theorem d_R_isRegister_0 : decode b_R_isRegister 0 = .ok (.iload_n 0, 1) := by decide +kernel
theorem d_R_isRegister_1 : decode b_R_isRegister 1 = .ok (.ifCond .lt 13, 3) := by decide +kernel
theorem d_R_isRegister_4 : decode b_R_isRegister 4 = .ok (.iload_n 0, 1) := by decide +kernel
theorem d_R_isRegister_5 : decode b_R_isRegister 5 = .ok (.bipush 8, 2) := by decide +kernel
theorem d_R_isRegister_7 : decode b_R_isRegister 7 = .ok (.if_icmp .ge 7, 3) := by decide +kernel
theorem d_R_isRegister_10 : decode b_R_isRegister 10 = .ok (.iconst 1, 1) := by decide +kernel
theorem d_R_isRegister_11 : decode b_R_isRegister 11 = .ok (.goto 4, 3) := by decide +kernel
theorem d_R_isRegister_14 : decode b_R_isRegister 14 = .ok (.iconst 0, 1) := by decide +kernel
theorem d_R_isRegister_15 : decode b_R_isRegister 15 = .ok (.ireturn, 1) := by decide +kernel
theorem d_R_isSpot_0 : decode b_R_isSpot 0 = .ok (.iload_n 0, 1) := by decide +kernel
theorem d_R_isSpot_1 : decode b_R_isSpot 1 = .ok (.ifCond .lt 12, 3) := by decide +kernel
theorem d_R_isSpot_4 : decode b_R_isSpot 4 = .ok (.iload_n 0, 1) := by decide +kernel
theorem d_R_isSpot_5 : decode b_R_isSpot 5 = .ok (.iconst 4, 1) := by decide +kernel
theorem d_R_isSpot_6 : decode b_R_isSpot 6 = .ok (.if_icmp .ge 7, 3) := by decide +kernel
theorem d_R_isSpot_9 : decode b_R_isSpot 9 = .ok (.iconst 1, 1) := by decide +kernel
theorem d_R_isSpot_10 : decode b_R_isSpot 10 = .ok (.goto 4, 3) := by decide +kernel
theorem d_R_isSpot_13 : decode b_R_isSpot 13 = .ok (.iconst 0, 1) := by decide +kernel
theorem d_R_isSpot_14 : decode b_R_isSpot 14 = .ok (.ireturn, 1) := by decide +kernel
theorem d_R_isModulus_0 : decode b_R_isModulus 0 = .ok (.iload_n 0, 1) := by decide +kernel
theorem d_R_isModulus_1 : decode b_R_isModulus 1 = .ok (.ifCond .eq 8, 3) := by decide +kernel
theorem d_R_isModulus_4 : decode b_R_isModulus 4 = .ok (.iload_n 0, 1) := by decide +kernel
theorem d_R_isModulus_5 : decode b_R_isModulus 5 = .ok (.iconst 1, 1) := by decide +kernel
theorem d_R_isModulus_6 : decode b_R_isModulus 6 = .ok (.if_icmp .ne 7, 3) := by decide +kernel
theorem d_R_isModulus_9 : decode b_R_isModulus 9 = .ok (.iconst 1, 1) := by decide +kernel
theorem d_R_isModulus_10 : decode b_R_isModulus 10 = .ok (.goto 4, 3) := by decide +kernel
theorem d_R_isModulus_13 : decode b_R_isModulus 13 = .ok (.iconst 0, 1) := by decide +kernel
theorem d_R_isModulus_14 : decode b_R_isModulus 14 = .ok (.ireturn, 1) := by decide +kernel
theorem d_R_set_0 : decode b_R_set 0 = .ok (.iload_n 1, 1) := by decide +kernel
theorem d_R_set_1 : decode b_R_set 1 = .ok (.invokestatic 139, 3) := by decide +kernel
theorem d_R_set_4 : decode b_R_set 4 = .ok (.ifCond .ne 5, 3) := by decide +kernel
theorem d_R_set_7 : decode b_R_set 7 = .ok (.iconst 0, 1) := by decide +kernel
theorem d_R_set_8 : decode b_R_set 8 = .ok (.ireturn, 1) := by decide +kernel
theorem d_R_set_9 : decode b_R_set 9 = .ok (.aload_n 0, 1) := by decide +kernel
theorem d_R_set_10 : decode b_R_set 10 = .ok (.iload_n 1, 1) := by decide +kernel
theorem d_R_set_11 : decode b_R_set 11 = .ok (.lload_n 2, 1) := by decide +kernel
theorem d_R_set_12 : decode b_R_set 12 = .ok (.lload 4, 2) := by decide +kernel
theorem d_R_set_14 : decode b_R_set 14 = .ok (.lload 6, 2) := by decide +kernel
theorem d_R_set_16 : decode b_R_set 16 = .ok (.lload 8, 2) := by decide +kernel
theorem d_R_set_18 : decode b_R_set 18 = .ok (.invokevirtual 34, 3) := by decide +kernel
theorem d_R_set_21 : decode b_R_set 21 = .ok (.iconst 1, 1) := by decide +kernel
theorem d_R_set_22 : decode b_R_set 22 = .ok (.ireturn, 1) := by decide +kernel
theorem d_R_get_0 : decode b_R_get 0 = .ok (.iload_n 1, 1) := by decide +kernel
theorem d_R_get_1 : decode b_R_get 1 = .ok (.invokestatic 139, 3) := by decide +kernel
theorem d_R_get_4 : decode b_R_get 4 = .ok (.ifCond .eq 12, 3) := by decide +kernel
theorem d_R_get_7 : decode b_R_get 7 = .ok (.iload_n 2, 1) := by decide +kernel
theorem d_R_get_8 : decode b_R_get 8 = .ok (.ifCond .lt 8, 3) := by decide +kernel
theorem d_R_get_11 : decode b_R_get 11 = .ok (.iload_n 2, 1) := by decide +kernel
theorem d_R_get_12 : decode b_R_get 12 = .ok (.iconst 3, 1) := by decide +kernel
theorem d_R_get_13 : decode b_R_get 13 = .ok (.if_icmp .le 5, 3) := by decide +kernel
theorem d_R_get_16 : decode b_R_get 16 = .ok (.lconst 0, 1) := by decide +kernel
theorem d_R_get_17 : decode b_R_get 17 = .ok (.lreturn, 1) := by decide +kernel
theorem d_R_get_18 : decode b_R_get 18 = .ok (.lconst 0, 1) := by decide +kernel
theorem d_R_get_19 : decode b_R_get 19 = .ok (.lstore_n 3, 1) := by decide +kernel
theorem d_R_get_20 : decode b_R_get 20 = .ok (.bipush 63, 2) := by decide +kernel
theorem d_R_get_22 : decode b_R_get 22 = .ok (.istore 5, 2) := by decide +kernel
theorem d_R_get_24 : decode b_R_get 24 = .ok (.iload 5, 2) := by decide +kernel
theorem d_R_get_26 : decode b_R_get 26 = .ok (.ifCond .lt 36, 3) := by decide +kernel
theorem d_R_get_29 : decode b_R_get 29 = .ok (.lload_n 3, 1) := by decide +kernel
theorem d_R_get_30 : decode b_R_get 30 = .ok (.iconst 1, 1) := by decide +kernel
theorem d_R_get_31 : decode b_R_get 31 = .ok (.lshl, 1) := by decide +kernel
theorem d_R_get_32 : decode b_R_get 32 = .ok (.aload_n 0, 1) := by decide +kernel
theorem d_R_get_33 : decode b_R_get 33 = .ok (.iload_n 1, 1) := by decide +kernel
theorem d_R_get_34 : decode b_R_get 34 = .ok (.bipush 64, 2) := by decide +kernel
theorem d_R_get_36 : decode b_R_get 36 = .ok (.iconst 3, 1) := by decide +kernel
theorem d_R_get_37 : decode b_R_get 37 = .ok (.iload_n 2, 1) := by decide +kernel
theorem d_R_get_38 : decode b_R_get 38 = .ok (.isub, 1) := by decide +kernel
theorem d_R_get_39 : decode b_R_get 39 = .ok (.imul, 1) := by decide +kernel
theorem d_R_get_40 : decode b_R_get 40 = .ok (.iload 5, 2) := by decide +kernel
theorem d_R_get_42 : decode b_R_get 42 = .ok (.iadd, 1) := by decide +kernel
theorem d_R_get_43 : decode b_R_get 43 = .ok (.invokevirtual 100, 3) := by decide +kernel
theorem d_R_get_46 : decode b_R_get 46 = .ok (.ifCond .eq 7, 3) := by decide +kernel
theorem d_R_get_49 : decode b_R_get 49 = .ok (.lconst 1, 1) := by decide +kernel
theorem d_R_get_50 : decode b_R_get 50 = .ok (.goto 4, 3) := by decide +kernel
theorem d_R_get_53 : decode b_R_get 53 = .ok (.lconst 0, 1) := by decide +kernel
theorem d_R_get_54 : decode b_R_get 54 = .ok (.lor, 1) := by decide +kernel
theorem d_R_get_55 : decode b_R_get 55 = .ok (.lstore_n 3, 1) := by decide +kernel
theorem d_R_get_56 : decode b_R_get 56 = .ok (.iinc 5 (-1), 3) := by decide +kernel
theorem d_R_get_59 : decode b_R_get 59 = .ok (.goto (-35), 3) := by decide +kernel
theorem d_R_get_62 : decode b_R_get 62 = .ok (.lload_n 3, 1) := by decide +kernel
theorem d_R_get_63 : decode b_R_get 63 = .ok (.lreturn, 1) := by decide +kernel
theorem d_R_reduce_0 : decode b_R_reduce 0 = .ok (.iload_n 1, 1) := by decide +kernel
theorem d_R_reduce_1 : decode b_R_reduce 1 = .ok (.invokestatic 139, 3) := by decide +kernel
theorem d_R_reduce_4 : decode b_R_reduce 4 = .ok (.ifCond .eq 10, 3) := by decide +kernel
theorem d_R_reduce_7 : decode b_R_reduce 7 = .ok (.iload_n 2, 1) := by decide +kernel
theorem d_R_reduce_8 : decode b_R_reduce 8 = .ok (.invokestatic 142, 3) := by decide +kernel
theorem d_R_reduce_11 : decode b_R_reduce 11 = .ok (.ifCond .ne 5, 3) := by decide +kernel
theorem d_R_reduce_14 : decode b_R_reduce 14 = .ok (.iconst 0, 1) := by decide +kernel
theorem d_R_reduce_15 : decode b_R_reduce 15 = .ok (.ireturn, 1) := by decide +kernel
theorem d_R_reduce_16 : decode b_R_reduce 16 = .ok (.aload_n 0, 1) := by decide +kernel
theorem d_R_reduce_17 : decode b_R_reduce 17 = .ok (.iload_n 1, 1) := by decide +kernel
theorem d_R_reduce_18 : decode b_R_reduce 18 = .ok (.iload_n 1, 1) := by decide +kernel
theorem d_R_reduce_19 : decode b_R_reduce 19 = .ok (.bipush 20, 2) := by decide +kernel
theorem d_R_reduce_21 : decode b_R_reduce 21 = .ok (.bipush 8, 2) := by decide +kernel
theorem d_R_reduce_23 : decode b_R_reduce 23 = .ok (.iload_n 2, 1) := by decide +kernel
theorem d_R_reduce_24 : decode b_R_reduce 24 = .ok (.iadd, 1) := by decide +kernel
theorem d_R_reduce_25 : decode b_R_reduce 25 = .ok (.invokevirtual 96, 3) := by decide +kernel
theorem d_R_reduce_28 : decode b_R_reduce 28 = .ok (.iconst 1, 1) := by decide +kernel
theorem d_R_reduce_29 : decode b_R_reduce 29 = .ok (.ireturn, 1) := by decide +kernel
theorem d_R_work_0 : decode b_R_work 0 = .ok (.iload_n 2, 1) := by decide +kernel
theorem d_R_work_1 : decode b_R_work 1 = .ok (.invokestatic 139, 3) := by decide +kernel
theorem d_R_work_4 : decode b_R_work 4 = .ok (.ifCond .eq 35, 3) := by decide +kernel
theorem d_R_work_7 : decode b_R_work 7 = .ok (.iload_n 3, 1) := by decide +kernel
theorem d_R_work_8 : decode b_R_work 8 = .ok (.invokestatic 139, 3) := by decide +kernel
theorem d_R_work_11 : decode b_R_work 11 = .ok (.ifCond .eq 28, 3) := by decide +kernel
theorem d_R_work_14 : decode b_R_work 14 = .ok (.iload 4, 2) := by decide +kernel
theorem d_R_work_16 : decode b_R_work 16 = .ok (.invokestatic 139, 3) := by decide +kernel
theorem d_R_work_19 : decode b_R_work 19 = .ok (.ifCond .eq 20, 3) := by decide +kernel
theorem d_R_work_22 : decode b_R_work 22 = .ok (.iload 5, 2) := by decide +kernel
theorem d_R_work_24 : decode b_R_work 24 = .ok (.invokestatic 142, 3) := by decide +kernel
theorem d_R_work_27 : decode b_R_work 27 = .ok (.ifCond .eq 12, 3) := by decide +kernel
theorem d_R_work_30 : decode b_R_work 30 = .ok (.iload_n 1, 1) := by decide +kernel
theorem d_R_work_31 : decode b_R_work 31 = .ok (.ifCond .lt 8, 3) := by decide +kernel
theorem d_R_work_34 : decode b_R_work 34 = .ok (.iload_n 1, 1) := by decide +kernel
theorem d_R_work_35 : decode b_R_work 35 = .ok (.iconst 3, 1) := by decide +kernel
theorem d_R_work_36 : decode b_R_work 36 = .ok (.if_icmp .le 5, 3) := by decide +kernel
theorem d_R_work_39 : decode b_R_work 39 = .ok (.iconst 0, 1) := by decide +kernel
theorem d_R_work_40 : decode b_R_work 40 = .ok (.ireturn, 1) := by decide +kernel
theorem d_R_work_41 : decode b_R_work 41 = .ok (.aload_n 0, 1) := by decide +kernel
theorem d_R_work_42 : decode b_R_work 42 = .ok (.iload_n 3, 1) := by decide +kernel
theorem d_R_work_43 : decode b_R_work 43 = .ok (.bipush 8, 2) := by decide +kernel
theorem d_R_work_45 : decode b_R_work 45 = .ok (.iload 5, 2) := by decide +kernel
theorem d_R_work_47 : decode b_R_work 47 = .ok (.iadd, 1) := by decide +kernel
theorem d_R_work_48 : decode b_R_work 48 = .ok (.invokevirtual 78, 3) := by decide +kernel
theorem d_R_work_51 : decode b_R_work 51 = .ok (.ifCond .ge 31, 3) := by decide +kernel
theorem d_R_work_54 : decode b_R_work 54 = .ok (.aload_n 0, 1) := by decide +kernel
theorem d_R_work_55 : decode b_R_work 55 = .ok (.iload 4, 2) := by decide +kernel
theorem d_R_work_57 : decode b_R_work 57 = .ok (.bipush 8, 2) := by decide +kernel
theorem d_R_work_59 : decode b_R_work 59 = .ok (.iload 5, 2) := by decide +kernel
theorem d_R_work_61 : decode b_R_work 61 = .ok (.iadd, 1) := by decide +kernel
theorem d_R_work_62 : decode b_R_work 62 = .ok (.invokevirtual 78, 3) := by decide +kernel
theorem d_R_work_65 : decode b_R_work 65 = .ok (.ifCond .ge 17, 3) := by decide +kernel
theorem d_R_work_68 : decode b_R_work 68 = .ok (.iload_n 1, 1) := by decide +kernel
theorem d_R_work_69 : decode b_R_work 69 = .ok (.iconst 3, 1) := by decide +kernel
theorem d_R_work_70 : decode b_R_work 70 = .ok (.if_icmp .ne 14, 3) := by decide +kernel
theorem d_R_work_73 : decode b_R_work 73 = .ok (.aload_n 0, 1) := by decide +kernel
theorem d_R_work_74 : decode b_R_work 74 = .ok (.iload 4, 2) := by decide +kernel
theorem d_R_work_76 : decode b_R_work 76 = .ok (.invokevirtual 115, 3) := by decide +kernel
theorem d_R_work_79 : decode b_R_work 79 = .ok (.ifCond .eq 5, 3) := by decide +kernel
theorem d_R_work_82 : decode b_R_work 82 = .ok (.iconst 0, 1) := by decide +kernel
theorem d_R_work_83 : decode b_R_work 83 = .ok (.ireturn, 1) := by decide +kernel
theorem d_R_work_84 : decode b_R_work 84 = .ok (.iload_n 1, 1) := by decide +kernel
theorem d_R_work_85 : decode b_R_work 85 = .ok (.ifCond .ne 19, 3) := by decide +kernel
theorem d_R_work_88 : decode b_R_work 88 = .ok (.aload_n 0, 1) := by decide +kernel
theorem d_R_work_89 : decode b_R_work 89 = .ok (.iload_n 2, 1) := by decide +kernel
theorem d_R_work_90 : decode b_R_work 90 = .ok (.iload_n 3, 1) := by decide +kernel
theorem d_R_work_91 : decode b_R_work 91 = .ok (.iload 4, 2) := by decide +kernel
theorem d_R_work_93 : decode b_R_work 93 = .ok (.bipush 8, 2) := by decide +kernel
theorem d_R_work_95 : decode b_R_work 95 = .ok (.iload 5, 2) := by decide +kernel
theorem d_R_work_97 : decode b_R_work 97 = .ok (.iadd, 1) := by decide +kernel
theorem d_R_work_98 : decode b_R_work 98 = .ok (.invokevirtual 124, 3) := by decide +kernel
theorem d_R_work_101 : decode b_R_work 101 = .ok (.goto 58, 3) := by decide +kernel
theorem d_R_work_104 : decode b_R_work 104 = .ok (.iload_n 1, 1) := by decide +kernel
theorem d_R_work_105 : decode b_R_work 105 = .ok (.iconst 1, 1) := by decide +kernel
theorem d_R_work_106 : decode b_R_work 106 = .ok (.if_icmp .ne 19, 3) := by decide +kernel
theorem d_R_work_109 : decode b_R_work 109 = .ok (.aload_n 0, 1) := by decide +kernel
theorem d_R_work_110 : decode b_R_work 110 = .ok (.iload_n 2, 1) := by decide +kernel
theorem d_R_work_111 : decode b_R_work 111 = .ok (.iload_n 3, 1) := by decide +kernel
theorem d_R_work_112 : decode b_R_work 112 = .ok (.iload 4, 2) := by decide +kernel
theorem d_R_work_114 : decode b_R_work 114 = .ok (.bipush 8, 2) := by decide +kernel
theorem d_R_work_116 : decode b_R_work 116 = .ok (.iload 5, 2) := by decide +kernel
theorem d_R_work_118 : decode b_R_work 118 = .ok (.iadd, 1) := by decide +kernel
theorem d_R_work_119 : decode b_R_work 119 = .ok (.invokevirtual 112, 3) := by decide +kernel
theorem d_R_work_122 : decode b_R_work 122 = .ok (.goto 37, 3) := by decide +kernel
theorem d_R_work_125 : decode b_R_work 125 = .ok (.iload_n 1, 1) := by decide +kernel
theorem d_R_work_126 : decode b_R_work 126 = .ok (.iconst 2, 1) := by decide +kernel
theorem d_R_work_127 : decode b_R_work 127 = .ok (.if_icmp .ne 19, 3) := by decide +kernel
theorem d_R_work_130 : decode b_R_work 130 = .ok (.aload_n 0, 1) := by decide +kernel
theorem d_R_work_131 : decode b_R_work 131 = .ok (.iload_n 2, 1) := by decide +kernel
theorem d_R_work_132 : decode b_R_work 132 = .ok (.iload_n 3, 1) := by decide +kernel
theorem d_R_work_133 : decode b_R_work 133 = .ok (.iload 4, 2) := by decide +kernel
theorem d_R_work_135 : decode b_R_work 135 = .ok (.bipush 8, 2) := by decide +kernel
theorem d_R_work_137 : decode b_R_work 137 = .ok (.iload 5, 2) := by decide +kernel
theorem d_R_work_139 : decode b_R_work 139 = .ok (.iadd, 1) := by decide +kernel
theorem d_R_work_140 : decode b_R_work 140 = .ok (.invokevirtual 96, 3) := by decide +kernel
theorem d_R_work_143 : decode b_R_work 143 = .ok (.goto 16, 3) := by decide +kernel
theorem d_R_work_146 : decode b_R_work 146 = .ok (.aload_n 0, 1) := by decide +kernel
theorem d_R_work_147 : decode b_R_work 147 = .ok (.iload_n 2, 1) := by decide +kernel
theorem d_R_work_148 : decode b_R_work 148 = .ok (.iload_n 3, 1) := by decide +kernel
theorem d_R_work_149 : decode b_R_work 149 = .ok (.iload 4, 2) := by decide +kernel
theorem d_R_work_151 : decode b_R_work 151 = .ok (.bipush 8, 2) := by decide +kernel
theorem d_R_work_153 : decode b_R_work 153 = .ok (.iload 5, 2) := by decide +kernel
theorem d_R_work_155 : decode b_R_work 155 = .ok (.iadd, 1) := by decide +kernel
theorem d_R_work_156 : decode b_R_work 156 = .ok (.invokevirtual 121, 3) := by decide +kernel
theorem d_R_work_159 : decode b_R_work 159 = .ok (.iconst 1, 1) := by decide +kernel
theorem d_R_work_160 : decode b_R_work 160 = .ok (.ireturn, 1) := by decide +kernel
theorem d_R_root_0 : decode b_R_root 0 = .ok (.iload_n 1, 1) := by decide +kernel
theorem d_R_root_1 : decode b_R_root 1 = .ok (.invokestatic 139, 3) := by decide +kernel
theorem d_R_root_4 : decode b_R_root 4 = .ok (.ifCond .eq 33, 3) := by decide +kernel
theorem d_R_root_7 : decode b_R_root 7 = .ok (.iload_n 2, 1) := by decide +kernel
theorem d_R_root_8 : decode b_R_root 8 = .ok (.invokestatic 139, 3) := by decide +kernel
theorem d_R_root_11 : decode b_R_root 11 = .ok (.ifCond .eq 26, 3) := by decide +kernel
theorem d_R_root_14 : decode b_R_root 14 = .ok (.aload_n 0, 1) := by decide +kernel
theorem d_R_root_15 : decode b_R_root 15 = .ok (.iload_n 2, 1) := by decide +kernel
theorem d_R_root_16 : decode b_R_root 16 = .ok (.bipush 8, 2) := by decide +kernel
theorem d_R_root_18 : decode b_R_root 18 = .ok (.invokevirtual 78, 3) := by decide +kernel
theorem d_R_root_21 : decode b_R_root 21 = .ok (.ifCond .ge 16, 3) := by decide +kernel
theorem d_R_root_24 : decode b_R_root 24 = .ok (.aload_n 0, 1) := by decide +kernel
theorem d_R_root_25 : decode b_R_root 25 = .ok (.iload_n 1, 1) := by decide +kernel
theorem d_R_root_26 : decode b_R_root 26 = .ok (.iload_n 2, 1) := by decide +kernel
theorem d_R_root_27 : decode b_R_root 27 = .ok (.invokevirtual 145, 3) := by decide +kernel
theorem d_R_root_30 : decode b_R_root 30 = .ok (.ifCond .eq 7, 3) := by decide +kernel
theorem d_R_root_33 : decode b_R_root 33 = .ok (.iconst 1, 1) := by decide +kernel
theorem d_R_root_34 : decode b_R_root 34 = .ok (.goto 4, 3) := by decide +kernel
theorem d_R_root_37 : decode b_R_root 37 = .ok (.iconst 0, 1) := by decide +kernel
theorem d_R_root_38 : decode b_R_root 38 = .ok (.ireturn, 1) := by decide +kernel
theorem d_R_spot_0 : decode b_R_spot 0 = .ok (.iload_n 2, 1) := by decide +kernel
theorem d_R_spot_1 : decode b_R_spot 1 = .ok (.invokestatic 148, 3) := by decide +kernel
theorem d_R_spot_4 : decode b_R_spot 4 = .ok (.ifCond .eq 42, 3) := by decide +kernel
theorem d_R_spot_7 : decode b_R_spot 7 = .ok (.iload_n 1, 1) := by decide +kernel
theorem d_R_spot_8 : decode b_R_spot 8 = .ok (.ifCond .lt 38, 3) := by decide +kernel
theorem d_R_spot_11 : decode b_R_spot 11 = .ok (.iload_n 1, 1) := by decide +kernel
theorem d_R_spot_12 : decode b_R_spot 12 = .ok (.iconst 2, 1) := by decide +kernel
theorem d_R_spot_13 : decode b_R_spot 13 = .ok (.if_icmp .gt 33, 3) := by decide +kernel
theorem d_R_spot_16 : decode b_R_spot 16 = .ok (.iload_n 1, 1) := by decide +kernel
theorem d_R_spot_17 : decode b_R_spot 17 = .ok (.iconst 2, 1) := by decide +kernel
theorem d_R_spot_18 : decode b_R_spot 18 = .ok (.if_icmp .ne 30, 3) := by decide +kernel
theorem d_R_spot_21 : decode b_R_spot 21 = .ok (.iload_n 3, 1) := by decide +kernel
theorem d_R_spot_22 : decode b_R_spot 22 = .ok (.invokestatic 139, 3) := by decide +kernel
theorem d_R_spot_25 : decode b_R_spot 25 = .ok (.ifCond .eq 21, 3) := by decide +kernel
theorem d_R_spot_28 : decode b_R_spot 28 = .ok (.iload 4, 2) := by decide +kernel
theorem d_R_spot_30 : decode b_R_spot 30 = .ok (.invokestatic 139, 3) := by decide +kernel
theorem d_R_spot_33 : decode b_R_spot 33 = .ok (.ifCond .eq 13, 3) := by decide +kernel
theorem d_R_spot_36 : decode b_R_spot 36 = .ok (.aload_n 0, 1) := by decide +kernel
theorem d_R_spot_37 : decode b_R_spot 37 = .ok (.iload_n 3, 1) := by decide +kernel
theorem d_R_spot_38 : decode b_R_spot 38 = .ok (.iload 4, 2) := by decide +kernel
theorem d_R_spot_40 : decode b_R_spot 40 = .ok (.invokevirtual 151, 3) := by decide +kernel
theorem d_R_spot_43 : decode b_R_spot 43 = .ok (.ifCond .ne 5, 3) := by decide +kernel
theorem d_R_spot_46 : decode b_R_spot 46 = .ok (.iconst 0, 1) := by decide +kernel
theorem d_R_spot_47 : decode b_R_spot 47 = .ok (.ireturn, 1) := by decide +kernel
theorem d_R_spot_48 : decode b_R_spot 48 = .ok (.aload_n 0, 1) := by decide +kernel
theorem d_R_spot_49 : decode b_R_spot 49 = .ok (.getfield 23, 3) := by decide +kernel
theorem d_R_spot_52 : decode b_R_spot 52 = .ok (.iload_n 2, 1) := by decide +kernel
theorem d_R_spot_53 : decode b_R_spot 53 = .ok (.iload_n 1, 1) := by decide +kernel
theorem d_R_spot_54 : decode b_R_spot 54 = .ok (.ifCond .ne 7, 3) := by decide +kernel
theorem d_R_spot_57 : decode b_R_spot 57 = .ok (.iconst 1, 1) := by decide +kernel
theorem d_R_spot_58 : decode b_R_spot 58 = .ok (.goto 4, 3) := by decide +kernel
theorem d_R_spot_61 : decode b_R_spot 61 = .ok (.iconst 0, 1) := by decide +kernel
theorem d_R_spot_62 : decode b_R_spot 62 = .ok (.bastore, 1) := by decide +kernel
theorem d_R_spot_63 : decode b_R_spot 63 = .ok (.iload_n 1, 1) := by decide +kernel
theorem d_R_spot_64 : decode b_R_spot 64 = .ok (.ifCond .le 46, 3) := by decide +kernel
theorem d_R_spot_67 : decode b_R_spot 67 = .ok (.aload_n 0, 1) := by decide +kernel
theorem d_R_spot_68 : decode b_R_spot 68 = .ok (.bipush 10, 2) := by decide +kernel
theorem d_R_spot_70 : decode b_R_spot 70 = .ok (.iconst 2, 1) := by decide +kernel
theorem d_R_spot_71 : decode b_R_spot 71 = .ok (.iload_n 2, 1) := by decide +kernel
theorem d_R_spot_72 : decode b_R_spot 72 = .ok (.imul, 1) := by decide +kernel
theorem d_R_spot_73 : decode b_R_spot 73 = .ok (.iadd, 1) := by decide +kernel
theorem d_R_spot_74 : decode b_R_spot 74 = .ok (.iload_n 1, 1) := by decide +kernel
theorem d_R_spot_75 : decode b_R_spot 75 = .ok (.iconst 1, 1) := by decide +kernel
theorem d_R_spot_76 : decode b_R_spot 76 = .ok (.if_icmp .ne 8, 3) := by decide +kernel
theorem d_R_spot_79 : decode b_R_spot 79 = .ok (.bipush 18, 2) := by decide +kernel
theorem d_R_spot_81 : decode b_R_spot 81 = .ok (.goto 4, 3) := by decide +kernel
theorem d_R_spot_84 : decode b_R_spot 84 = .ok (.iload_n 3, 1) := by decide +kernel
theorem d_R_spot_85 : decode b_R_spot 85 = .ok (.invokevirtual 70, 3) := by decide +kernel
theorem d_R_spot_88 : decode b_R_spot 88 = .ok (.aload_n 0, 1) := by decide +kernel
theorem d_R_spot_89 : decode b_R_spot 89 = .ok (.bipush 11, 2) := by decide +kernel
theorem d_R_spot_91 : decode b_R_spot 91 = .ok (.iconst 2, 1) := by decide +kernel
theorem d_R_spot_92 : decode b_R_spot 92 = .ok (.iload_n 2, 1) := by decide +kernel
theorem d_R_spot_93 : decode b_R_spot 93 = .ok (.imul, 1) := by decide +kernel
theorem d_R_spot_94 : decode b_R_spot 94 = .ok (.iadd, 1) := by decide +kernel
theorem d_R_spot_95 : decode b_R_spot 95 = .ok (.iload_n 1, 1) := by decide +kernel
theorem d_R_spot_96 : decode b_R_spot 96 = .ok (.iconst 1, 1) := by decide +kernel
theorem d_R_spot_97 : decode b_R_spot 97 = .ok (.if_icmp .ne 8, 3) := by decide +kernel
theorem d_R_spot_100 : decode b_R_spot 100 = .ok (.bipush 19, 2) := by decide +kernel
theorem d_R_spot_102 : decode b_R_spot 102 = .ok (.goto 5, 3) := by decide +kernel
theorem d_R_spot_105 : decode b_R_spot 105 = .ok (.iload 4, 2) := by decide +kernel
theorem d_R_spot_107 : decode b_R_spot 107 = .ok (.invokevirtual 70, 3) := by decide +kernel
theorem d_R_spot_110 : decode b_R_spot 110 = .ok (.iconst 1, 1) := by decide +kernel
theorem d_R_spot_111 : decode b_R_spot 111 = .ok (.ireturn, 1) := by decide +kernel
theorem d_R_sum_0 : decode b_R_sum 0 = .ok (.iload_n 1, 1) := by decide +kernel
theorem d_R_sum_1 : decode b_R_sum 1 = .ok (.invokestatic 148, 3) := by decide +kernel
theorem d_R_sum_4 : decode b_R_sum 4 = .ok (.ifCond .eq 17, 3) := by decide +kernel
theorem d_R_sum_7 : decode b_R_sum 7 = .ok (.iload_n 2, 1) := by decide +kernel
theorem d_R_sum_8 : decode b_R_sum 8 = .ok (.invokestatic 148, 3) := by decide +kernel
theorem d_R_sum_11 : decode b_R_sum 11 = .ok (.ifCond .eq 10, 3) := by decide +kernel
theorem d_R_sum_14 : decode b_R_sum 14 = .ok (.iload_n 3, 1) := by decide +kernel
theorem d_R_sum_15 : decode b_R_sum 15 = .ok (.invokestatic 148, 3) := by decide +kernel
theorem d_R_sum_18 : decode b_R_sum 18 = .ok (.ifCond .ne 5, 3) := by decide +kernel
theorem d_R_sum_21 : decode b_R_sum 21 = .ok (.iconst 0, 1) := by decide +kernel
theorem d_R_sum_22 : decode b_R_sum 22 = .ok (.ireturn, 1) := by decide +kernel
theorem d_R_sum_23 : decode b_R_sum 23 = .ok (.aload_n 0, 1) := by decide +kernel
theorem d_R_sum_24 : decode b_R_sum 24 = .ok (.bipush 22, 2) := by decide +kernel
theorem d_R_sum_26 : decode b_R_sum 26 = .ok (.iload_n 2, 1) := by decide +kernel
theorem d_R_sum_27 : decode b_R_sum 27 = .ok (.invokevirtual 154, 3) := by decide +kernel
theorem d_R_sum_30 : decode b_R_sum 30 = .ok (.aload_n 0, 1) := by decide +kernel
theorem d_R_sum_31 : decode b_R_sum 31 = .ok (.bipush 25, 2) := by decide +kernel
theorem d_R_sum_33 : decode b_R_sum 33 = .ok (.iload_n 3, 1) := by decide +kernel
theorem d_R_sum_34 : decode b_R_sum 34 = .ok (.invokevirtual 154, 3) := by decide +kernel
theorem d_R_sum_37 : decode b_R_sum 37 = .ok (.aload_n 0, 1) := by decide +kernel
theorem d_R_sum_38 : decode b_R_sum 38 = .ok (.bipush 22, 2) := by decide +kernel
theorem d_R_sum_40 : decode b_R_sum 40 = .ok (.bipush 25, 2) := by decide +kernel
theorem d_R_sum_42 : decode b_R_sum 42 = .ok (.invokevirtual 133, 3) := by decide +kernel
theorem d_R_sum_45 : decode b_R_sum 45 = .ok (.aload_n 0, 1) := by decide +kernel
theorem d_R_sum_46 : decode b_R_sum 46 = .ok (.iload_n 1, 1) := by decide +kernel
theorem d_R_sum_47 : decode b_R_sum 47 = .ok (.bipush 22, 2) := by decide +kernel
theorem d_R_sum_49 : decode b_R_sum 49 = .ok (.invokevirtual 157, 3) := by decide +kernel
theorem d_R_sum_52 : decode b_R_sum 52 = .ok (.iconst 1, 1) := by decide +kernel
theorem d_R_sum_53 : decode b_R_sum 53 = .ok (.ireturn, 1) := by decide +kernel
theorem d_R_times_0 : decode b_R_times 0 = .ok (.iload_n 1, 1) := by decide +kernel
theorem d_R_times_1 : decode b_R_times 1 = .ok (.invokestatic 148, 3) := by decide +kernel
theorem d_R_times_4 : decode b_R_times 4 = .ok (.ifCond .eq 17, 3) := by decide +kernel
theorem d_R_times_7 : decode b_R_times 7 = .ok (.iload_n 2, 1) := by decide +kernel
theorem d_R_times_8 : decode b_R_times 8 = .ok (.invokestatic 148, 3) := by decide +kernel
theorem d_R_times_11 : decode b_R_times 11 = .ok (.ifCond .eq 10, 3) := by decide +kernel
theorem d_R_times_14 : decode b_R_times 14 = .ok (.iload_n 3, 1) := by decide +kernel
theorem d_R_times_15 : decode b_R_times 15 = .ok (.invokestatic 139, 3) := by decide +kernel
theorem d_R_times_18 : decode b_R_times 18 = .ok (.ifCond .ne 5, 3) := by decide +kernel
theorem d_R_times_21 : decode b_R_times 21 = .ok (.iconst 0, 1) := by decide +kernel
theorem d_R_times_22 : decode b_R_times 22 = .ok (.ireturn, 1) := by decide +kernel
theorem d_R_times_23 : decode b_R_times 23 = .ok (.aload_n 0, 1) := by decide +kernel
theorem d_R_times_24 : decode b_R_times 24 = .ok (.bipush 22, 2) := by decide +kernel
theorem d_R_times_26 : decode b_R_times 26 = .ok (.iload_n 2, 1) := by decide +kernel
theorem d_R_times_27 : decode b_R_times 27 = .ok (.invokevirtual 154, 3) := by decide +kernel
theorem d_R_times_30 : decode b_R_times 30 = .ok (.aload_n 0, 1) := by decide +kernel
theorem d_R_times_31 : decode b_R_times 31 = .ok (.iload_n 3, 1) := by decide +kernel
theorem d_R_times_32 : decode b_R_times 32 = .ok (.invokevirtual 160, 3) := by decide +kernel
theorem d_R_times_35 : decode b_R_times 35 = .ok (.aload_n 0, 1) := by decide +kernel
theorem d_R_times_36 : decode b_R_times 36 = .ok (.iload_n 1, 1) := by decide +kernel
theorem d_R_times_37 : decode b_R_times 37 = .ok (.bipush 25, 2) := by decide +kernel
theorem d_R_times_39 : decode b_R_times 39 = .ok (.invokevirtual 157, 3) := by decide +kernel
theorem d_R_times_42 : decode b_R_times 42 = .ok (.iconst 1, 1) := by decide +kernel
theorem d_R_times_43 : decode b_R_times 43 = .ok (.ireturn, 1) := by decide +kernel
theorem d_R_place_0 : decode b_R_place 0 = .ok (.iload_n 1, 1) := by decide +kernel
